/-! THE LAW'S LOOP -/
theorem lw_case {X : aX} {μ : Mm} {Q : Option Value → Mm → Prop} {L : aL} {t : Nat} (hX : X 1 = (4, fun j => if j = 1 ∨ j = 2 then 2 else 6)) (g0 : aL_get L 0 = some (.retAddr 0)) (g1 : aL_get L 1 = some (.ref 0)) (g2 : aL_get L 2 = some (.ref 86)) (g3 : aL_get L 3 = some (.int (nI (6 * t)))) (hb : 6 * t + 6 ≤ (X 0).1) (hN : (X 0).1 ≤ 3072) (hI : Inv μ) (kk : ∀ μ2, Inv μ2 → WP X mL_law 1737 L [] μ2 Q) : ∀ j : Nat, j < 44 → ∃ (off : Int) (tg : Nat), (#[191, 224, 257, 320, 343, 376, 409, 442, 485, 548, 601, 644, 687, 710, 733, 766, 779, 792, 805, 818, 851, 884, 917, 940, 953, 966, 990, 1003, 1056, 1119, 1182, 1215, 1258, 1291, 1324, 1357, 1390, 1423, 1436, 1469, 1532, 1575, 1598, 1651] : Array Int)[j]? = some off ∧ aTgt 33 off = some tg ∧ WP X mL_law tg L [] μ Q
  | 0, _ => ⟨191, 224, rfl, rfl, law_own (fun x0 x1 => J_own x0 x1) g0 g1 g2 g3 hb hN hI kk⟩
  | 1, _ => ⟨224, 257, rfl, rfl, law_coins (fun x0 x1 => J_coins x0 x1) g0 g1 g2 g3 hb hN hI kk⟩
  | 2, _ => ⟨257, 290, rfl, rfl, law_type (fun x0 x1 => J_type x0 x1) g0 g1 g2 g3 hb hN hI kk⟩
  | 3, _ => ⟨320, 353, rfl, rfl, law_wish (fun x0 => J_wish x0) g0 g1 g2 g3 hb hN hI kk⟩
  | 4, _ => ⟨343, 376, rfl, rfl, law_worth (fun x0 x1 => J_worth x0 x1) g0 g1 g2 g3 hb hN hI kk⟩
  | 5, _ => ⟨376, 409, rfl, rfl, law_barred (fun x0 x1 => J_barred x0 x1) g0 g1 g2 g3 hb hN hI kk⟩
  | 6, _ => ⟨409, 442, rfl, rfl, law_told (fun x0 x1 => J_told x0 x1) g0 g1 g2 g3 hb hN hI kk⟩
  | 7, _ => ⟨442, 475, rfl, rfl, law_set (fun x0 x1 x2 => J_set x0 x1 x2) g0 g1 g2 g3 hb hN hI kk⟩
  | 8, _ => ⟨485, 518, rfl, rfl, law_gain (fun x0 x1 x2 x3 x4 => J_gain x0 x1 x2 x3 x4) g0 g1 g2 g3 hb hN hI kk⟩
  | 9, _ => ⟨548, 581, rfl, rfl, law_good (fun x0 x1 x2 x3 => J_good x0 x1 x2 x3) g0 g1 g2 g3 hb hN hI kk⟩
  | 10, _ => ⟨601, 634, rfl, rfl, law_best (fun x0 x1 x2 => J_best x0 x1 x2) g0 g1 g2 g3 hb hN hI kk⟩
  | 11, _ => ⟨644, 677, rfl, rfl, law_talk (fun x0 x1 x2 => J_talk x0 x1 x2) g0 g1 g2 g3 hb hN hI kk⟩
  | 12, _ => ⟨687, 720, rfl, rfl, law_talks (fun x0 => J_talks x0) g0 g1 g2 g3 hb hN hI kk⟩
  | 13, _ => ⟨710, 743, rfl, rfl, law_ask (fun x0 => J_ask x0) g0 g1 g2 g3 hb hN hI kk⟩
  | 14, _ => ⟨733, 766, rfl, rfl, law_offer (fun x0 x1 => J_offer x0 x1) g0 g1 g2 g3 hb hN hI kk⟩
  | 15, _ => ⟨766, 799, rfl, rfl, law_yes J_yes g0 g1 g2 g3 hb hN hI kk⟩
  | 16, _ => ⟨779, 812, rfl, rfl, law_walk J_walk g0 g1 g2 g3 hb hN hI kk⟩
  | 17, _ => ⟨792, 825, rfl, rfl, law_says J_says g0 g1 g2 g3 hb hN hI kk⟩
  | 18, _ => ⟨805, 838, rfl, rfl, law_runs J_runs g0 g1 g2 g3 hb hN hI kk⟩
  | 19, _ => ⟨818, 851, rfl, rfl, law_word (fun x0 x1 => J_word x0 x1) g0 g1 g2 g3 hb hN hI kk⟩
  | 20, _ => ⟨851, 884, rfl, rfl, law_offered (fun x0 x1 => J_offered x0 x1) g0 g1 g2 g3 hb hN hI kk⟩
  | 21, _ => ⟨884, 917, rfl, rfl, law_learnt (fun x0 x1 => J_learnt x0 x1) g0 g1 g2 g3 hb hN hI kk⟩
  | 22, _ => ⟨917, 950, rfl, rfl, law_value (fun x0 => J_value x0) g0 g1 g2 g3 hb hN hI kk⟩
  | 23, _ => ⟨940, 973, rfl, rfl, law_unrest J_unrest g0 g1 g2 g3 hb hN hI kk⟩
  | 24, _ => ⟨953, 986, rfl, rfl, law_leaves J_leaves g0 g1 g2 g3 hb hN hI kk⟩
  | 25, _ => ⟨966, 999, rfl, rfl, law_share (fun x0 => J_share hX x0) g0 g1 g2 g3 hb hN hI kk⟩
  | 26, _ => ⟨990, 1023, rfl, rfl, law_envy J_envy g0 g1 g2 g3 hb hN hI kk⟩
  | 27, _ => ⟨1003, 1036, rfl, rfl, law_due (fun x0 x1 x2 x3 => J_due x0 x1 x2 x3) g0 g1 g2 g3 hb hN hI kk⟩
  | 28, _ => ⟨1056, 1089, rfl, rfl, law_when (fun x0 x1 x2 x3 x4 => J_when x0 x1 x2 x3 x4) g0 g1 g2 g3 hb hN hI kk⟩
  | 29, _ => ⟨1119, 1152, rfl, rfl, law_mend (fun x0 x1 x2 x3 x4 => J_mend x0 x1 x2 x3 x4) g0 g1 g2 g3 hb hN hI kk⟩
  | 30, _ => ⟨1182, 1215, rfl, rfl, law_bar (fun x0 x1 => J_bar x0 x1) g0 g1 g2 g3 hb hN hI kk⟩
  | 31, _ => ⟨1215, 1248, rfl, rfl, law_happen (fun x0 x1 x2 => J_happen x0 x1 x2) g0 g1 g2 g3 hb hN hI kk⟩
  | 32, _ => ⟨1258, 1291, rfl, rfl, law_pay (fun x0 x1 => J_pay x0 x1) g0 g1 g2 g3 hb hN hI kk⟩
  | 33, _ => ⟨1291, 1324, rfl, rfl, law_state (fun x0 x1 => J_state x0 x1) g0 g1 g2 g3 hb hN hI kk⟩
  | 34, _ => ⟨1324, 1357, rfl, rfl, law_end (fun x0 x1 => J_end x0 x1) g0 g1 g2 g3 hb hN hI kk⟩
  | 35, _ => ⟨1357, 1390, rfl, rfl, law_owes (fun x0 x1 => J_owes x0 x1) g0 g1 g2 g3 hb hN hI kk⟩
  | 36, _ => ⟨1390, 1423, rfl, rfl, law_row (fun x0 x1 => J_row x0 x1) g0 g1 g2 g3 hb hN hI kk⟩
  | 37, _ => ⟨1423, 1456, rfl, rfl, law_root J_root g0 g1 g2 g3 hb hN hI kk⟩
  | 38, _ => ⟨1436, 1469, rfl, rfl, law_proof (fun x0 x1 => J_proof x0 x1) g0 g1 g2 g3 hb hN hI kk⟩
  | 39, _ => ⟨1469, 1502, rfl, rfl, law_proves (fun x0 x1 x2 x3 x4 => J_proves x0 x1 x2 x3 x4) g0 g1 g2 g3 hb hN hI kk⟩
  | 40, _ => ⟨1532, 1565, rfl, rfl, law_sheet (fun x0 x1 x2 => J_sheet x0 x1 x2) g0 g1 g2 g3 hb hN hI kk⟩
  | 41, _ => ⟨1575, 1608, rfl, rfl, law_drop (fun x0 => J_drop x0) g0 g1 g2 g3 hb hN hI kk⟩
  | 42, _ => ⟨1598, 1631, rfl, rfl, law_item (fun x0 x1 x2 x3 => J_item x0 x1 x2 x3) g0 g1 g2 g3 hb hN hI kk⟩
  | 43, _ => ⟨1651, 1684, rfl, rfl, law_wishes (fun x0 x1 x2 x3 => J_wishes x0 x1 x2 x3) g0 g1 g2 g3 hb hN hI kk⟩
  | _ + 44, h => by omega
theorem lw_m6 (n : Nat) : nI (n + 6) - 6 = nI n := by
  rw [← nI_add]
  exact Int32.add_sub_cancel _ _
theorem lw_go {N t : Nat} (h : 6 * t + 6 ≤ N) (hN : N ≤ 3072) : ¬ Int32.ofNat N - 6 < nI (6 * t) := by
  obtain ⟨n, rfl⟩ : ∃ n, N = n + 6 := ⟨N - 6, by omega⟩
  rw [show Int32.ofNat (n + 6) - 6 = nI n from lw_m6 n]
  exact nI_nlt (by omega) (by omega)
theorem lw_lo : ∀ N, N < 6 → Int32.ofNat N - 6 < nI (6 * 0) := by decide +kernel
theorem lw_ex {N t : Nat} (h : N < 6 * t + 6) (ht : 6 * t ≤ N) (hN : N ≤ 3072) : Int32.ofNat N - 6 < nI (6 * t) := by
  by_cases c : N < 6
  · obtain rfl : t = 0 := by omega
    exact lw_lo N c
  · obtain ⟨n, rfl⟩ : ∃ n, N = n + 6 := ⟨N - 6, by omega⟩
    rw [show Int32.ofNat (n + 6) - 6 = nI n from lw_m6 n]
    exact nI_lt (by omega) (by omega)
theorem lw_i6 (t : Nat) : nI (6 * t) + Int32.ofInt 6 = nI (6 * (t + 1)) := nI_add (6 * t) 6
theorem lw_loop {X : aX} (hX : X 1 = (4, fun j => if j = 1 ∨ j = 2 then 2 else 6)) (hN : (X 0).1 ≤ 3072) : ∀ (k t : Nat), (X 0).1 < 6 * t + 6 + 6 * k → 6 * t ≤ (X 0).1 → ∀ (μ : Mm) (L : aL), Inv μ → aL_get L 0 = some (.retAddr 0) → aL_get L 1 = some (.ref 0) → aL_get L 2 = some (.ref 86) → aL_get L 3 = some (.int (nI (6 * t))) → WP X mL_law 18 L [] μ (fun r _ => r = some (.int 1))
  | 0, t, hk, ht, μ, L, hI, g0, g1, g2, g3 => by
    refine wp_iload_n (pc := 18) dL_law_18 (by first | rfl | assumption | (repeat first | assumption | rfl | refine aG_n ?_ rfl rfl)) ?_
    refine wp_eload_n (pc := 19) dL_law_19 (by first | rfl | assumption | (repeat first | assumption | rfl | refine aG_n ?_ rfl rfl)) ?_
    refine wp_slen (pc := 20) dL_law_20 ?_
    refine wp_bipush (pc := 21) (v := 6) dL_law_21 (by decide) ?_
    refine wp_isub (pc := 23) dL_law_23 ?_
    refine wp_icmp_gt (pc := 24) (tgt := 1743) dL_law_24 rfl (fun _ => ?_) (fun q => absurd (lw_ex (by omega) ht hN) q)
    refine wp_iconst (pc := 1743) (v := 1) dL_law_1743 (by decide) ?_
    refine wp_ireturn (pc := 1744) dL_law_1744 rfl (by first | rfl | decide | assumption) ?_
    rfl
  | k + 1, t, hk, ht, μ, L, hI, g0, g1, g2, g3 => by
    by_cases c : 6 * t + 6 ≤ (X 0).1
    · have kk : ∀ μ2, Inv μ2 → WP X mL_law 1737 L [] μ2 (fun r _ => r = some (.int 1)) := by
        intro μ2 hI2
        refine wp_iinc (pc := 1737) dL_law_1737 (by decide) (by first | rfl | assumption | (repeat first | assumption | rfl | refine aG_n ?_ rfl rfl)) rfl ?_
        refine wp_goto (pc := 1740) (tgt := 18) dL_law_1740 rfl ?_
        exact lw_loop hX hN k (t + 1) (by omega) (by omega) μ2 _ hI2 (by first | rfl | assumption | (repeat first | assumption | rfl | refine aG_n ?_ rfl rfl)) (by first | rfl | assumption | (repeat first | assumption | rfl | refine aG_n ?_ rfl rfl)) (by first | rfl | assumption | (repeat first | assumption | rfl | refine aG_n ?_ rfl rfl)) (by rw [← lw_i6]; first | rfl | assumption | (repeat first | assumption | rfl | refine aG_n ?_ rfl rfl))
      refine wp_iload_n (pc := 18) dL_law_18 (by first | rfl | assumption | (repeat first | assumption | rfl | refine aG_n ?_ rfl rfl)) ?_
      refine wp_eload_n (pc := 19) dL_law_19 (by first | rfl | assumption | (repeat first | assumption | rfl | refine aG_n ?_ rfl rfl)) ?_
      refine wp_slen (pc := 20) dL_law_20 ?_
      refine wp_bipush (pc := 21) (v := 6) dL_law_21 (by decide) ?_
      refine wp_isub (pc := 23) dL_law_23 ?_
      refine wp_icmp_gt (pc := 24) (tgt := 1743) dL_law_24 rfl (fun q => absurd q (lw_go c hN)) (fun _ => ?_)
      refine wp_eload_n (pc := 27) dL_law_27 (by first | rfl | assumption | (repeat first | assumption | rfl | refine aG_n ?_ rfl rfl)) ?_
      refine wp_iload_n (pc := 28) dL_law_28 (by first | rfl | assumption | (repeat first | assumption | rfl | refine aG_n ?_ rfl rfl)) ?_
      refine wp_sald (pc := 29) dL_law_29 (show vp_in (nI (6 * t)) (X 0).1 from vp_in_nI (by omega) (by omega)) ?_
      refine wp_bipush (pc := 30) (v := 63) dL_law_30 (by decide) ?_
      refine wp_iand (pc := 32) dL_law_32 ?_
      skip
      refine wp_switch (pc := 33) (off := 0) dL_law_33 (fun _ => ⟨1737, rfl, kk μ hI⟩) (fun j hj ej => ?_)
      exact lw_case hX g0 g1 g2 g3 c hN hI kk j (by omega)
    · refine wp_iload_n (pc := 18) dL_law_18 (by first | rfl | assumption | (repeat first | assumption | rfl | refine aG_n ?_ rfl rfl)) ?_
      refine wp_eload_n (pc := 19) dL_law_19 (by first | rfl | assumption | (repeat first | assumption | rfl | refine aG_n ?_ rfl rfl)) ?_
      refine wp_slen (pc := 20) dL_law_20 ?_
      refine wp_bipush (pc := 21) (v := 6) dL_law_21 (by decide) ?_
      refine wp_isub (pc := 23) dL_law_23 ?_
      refine wp_icmp_gt (pc := 24) (tgt := 1743) dL_law_24 rfl (fun _ => ?_) (fun q => absurd (lw_ex (by omega) ht hN) q)
      refine wp_iconst (pc := 1743) (v := 1) dL_law_1743 (by decide) ?_
      refine wp_ireturn (pc := 1744) dL_law_1744 rfl (by first | rfl | decide | assumption) ?_
      rfl

/-! learnt: the model -/
def AS (M : MM) (p c : Nat) : Prop := M 86 31 = nI (cn p 6) ∧ ∀ t, t < 6 → p.testBit t = true → M 105 (cn p t) = nI t ∧ M 106 (cn p t) = gv p c t
def offA (μ μ' : Mm) : Prop := (∀ c j, ¬ ((103 ≤ c ∧ c ≤ 106) ∨ (c = 86 ∧ (j = 29 ∨ j = 31))) → μ'.1 c j = μ.1 c j) ∧ μ'.2 = μ.2
theorem offM.as {μ μ' : Mm} {p c : Nat} (h : offM μ μ') (hA : AS μ.1 p c) : AS μ'.1 p c := ⟨(h.1 86 31 (by omega)).trans hA.1, fun t ht hb => by
  rw [h.1 105 _ (by omega), h.1 106 _ (by omega)]; exact hA.2 t ht hb⟩
theorem neg1_mul (x : Int32) : (-1 : Int32) * x = -x := by rw [Int32.neg_mul, Int32.one_mul]
section ALONE
variable {X : aX} {μ : Mm} {Q : Option Value → Mm → Prop} {p c s : Nat}
theorem l_aw (hp : p < 64) (hs : s < 64) (hA : AS μ.1 p c) (k : Q (some (.int (svG p c s))) μ) : ∀ (f t : Nat), t + f = 6 → ∀ L : aL, aL_get L 0 = some (.ref 86) → aL_get L 1 = some (.int (nI s)) → aL_get L 2 = some (.int (sumF (gv p c) s t)) → aL_get L 3 = some (.int (nI (cn p t))) → WP X mX12_aloneWorth 4 L [] μ Q
  | 0, t, ht, L, g0, g1, g2, g3 => by
    obtain rfl : t = 6 := by omega
    have h6 := cn_le p 6
    refine wp_iload_n (pc := 4) dX12_aloneWorth_4 (by first | rfl | assumption | (repeat first | assumption | rfl | refine aG_n ?_ rfl rfl)) ?_
    refine wp_aload_n (pc := 5) dX12_aloneWorth_5 (by first | rfl | assumption | (repeat first | assumption | rfl | refine aG_n ?_ rfl rfl)) ?_
    refine wp_getI (pc := 6) dX12_aloneWorth_6 fl_12_295 (by first | rfl | assumption | exact sh_house (by omega) | exact sh_wish (by omega) | exact sh_wor (by omega) | exact sh_bar (by omega) | exact sh_term (by omega) | exact sh_sheet (by omega) | exact sh_items (by omega) | exact sh_sums (by omega)) rfl ?_
    refine wp_icmp_ge (pc := 9) (tgt := 45) dX12_aloneWorth_9 rfl (fun _ => ?_) (fun q => absurd (by rw [hA.1]; exact nI_le (by omega) (by omega)) q)
    refine wp_iload_n (pc := 45) dX12_aloneWorth_45 (by first | rfl | assumption | (repeat first | assumption | rfl | refine aG_n ?_ rfl rfl)) ?_
    refine wp_ireturn (pc := 46) dX12_aloneWorth_46 rfl (by first | rfl | decide | assumption) ?_
    exact k
  | f + 1, t, ht, L, g0, g1, g2, g3 => by
    have h6 := cn_le p 6
    by_cases hb : p.testBit t = true
    · have hlt : cn p t + 1 ≤ cn p 6 := by rw [← cn_y hb]; exact cn_mono p _ _ (by omega)
      have ct : (nI (cn p t)).toNatClampNeg = cn p t := nI_clamp (by omega)
      obtain ⟨a1, a2⟩ := hA.2 t (by omega) hb
      by_cases hs2 : s.testBit t = true
      · have e : sumF (gv p c) s t + gv p c t = sumF (gv p c) s (t + 1) := by show _ = sumF (gv p c) s t + _; rw [if_pos hs2]
        refine wp_iload_n (pc := 4) dX12_aloneWorth_4 (by first | rfl | assumption | (repeat first | assumption | rfl | refine aG_n ?_ rfl rfl)) ?_
        refine wp_aload_n (pc := 5) dX12_aloneWorth_5 (by first | rfl | assumption | (repeat first | assumption | rfl | refine aG_n ?_ rfl rfl)) ?_
        refine wp_getI (pc := 6) dX12_aloneWorth_6 fl_12_295 (by first | rfl | assumption | exact sh_house (by omega) | exact sh_wish (by omega) | exact sh_wor (by omega) | exact sh_bar (by omega) | exact sh_term (by omega) | exact sh_sheet (by omega) | exact sh_items (by omega) | exact sh_sums (by omega)) rfl ?_
        refine wp_icmp_ge (pc := 9) (tgt := 45) dX12_aloneWorth_9 rfl (fun q => absurd q (by rw [hA.1]; exact nI_ge (by omega) (by omega))) (fun _ => ?_)
        refine wp_iload_n (pc := 12) dX12_aloneWorth_12 (by first | rfl | assumption | (repeat first | assumption | rfl | refine aG_n ?_ rfl rfl)) ?_
        refine wp_iload_n (pc := 13) dX12_aloneWorth_13 (by first | rfl | assumption | (repeat first | assumption | rfl | refine aG_n ?_ rfl rfl)) ?_
        refine wp_aload_n (pc := 14) dX12_aloneWorth_14 (by first | rfl | assumption | (repeat first | assumption | rfl | refine aG_n ?_ rfl rfl)) ?_
        refine wp_getR (pc := 15) dX12_aloneWorth_15 fl_12_65 (by first | rfl | assumption | exact sh_house (by omega) | exact sh_wish (by omega) | exact sh_wor (by omega) | exact sh_bar (by omega) | exact sh_term (by omega) | exact sh_sheet (by omega) | exact sh_items (by omega) | exact sh_sums (by omega)) rfl ?_
        refine wp_iload_n (pc := 18) dX12_aloneWorth_18 (by first | rfl | assumption | (repeat first | assumption | rfl | refine aG_n ?_ rfl rfl)) ?_
        refine wp_iald (pc := 19) dX12_aloneWorth_19 (by first | rfl | assumption | exact sh_house (by omega) | exact sh_wish (by omega) | exact sh_wor (by omega) | exact sh_bar (by omega) | exact sh_term (by omega) | exact sh_sheet (by omega) | exact sh_items (by omega) | exact sh_sums (by omega)) (vp_in_nI (by omega) (by decide)) ?_
        refine wp_ishr (pc := 20) dX12_aloneWorth_20 ?_
        refine wp_iconst (pc := 21) (v := 1) dX12_aloneWorth_21 (by decide) ?_
        refine wp_iand (pc := 22) dX12_aloneWorth_22 ?_
        refine wp_iconst (pc := 23) (v := 1) dX12_aloneWorth_23 (by decide) ?_
        refine wp_icmp_ne (pc := 24) (tgt := 36) dX12_aloneWorth_24 rfl (fun q => absurd (by rw [ct, a1]; exact (bit_i s hs t (by omega)).mpr hs2) q) (fun _ => ?_)
        refine wp_aload_n (pc := 27) dX12_aloneWorth_27 (by first | rfl | assumption | (repeat first | assumption | rfl | refine aG_n ?_ rfl rfl)) ?_
        refine wp_getR (pc := 28) dX12_aloneWorth_28 fl_12_68 (by first | rfl | assumption | exact sh_house (by omega) | exact sh_wish (by omega) | exact sh_wor (by omega) | exact sh_bar (by omega) | exact sh_term (by omega) | exact sh_sheet (by omega) | exact sh_items (by omega) | exact sh_sums (by omega)) rfl ?_
        refine wp_iload_n (pc := 31) dX12_aloneWorth_31 (by first | rfl | assumption | (repeat first | assumption | rfl | refine aG_n ?_ rfl rfl)) ?_
        refine wp_iald (pc := 32) dX12_aloneWorth_32 (by first | rfl | assumption | exact sh_house (by omega) | exact sh_wish (by omega) | exact sh_wor (by omega) | exact sh_bar (by omega) | exact sh_term (by omega) | exact sh_sheet (by omega) | exact sh_items (by omega) | exact sh_sums (by omega)) (vp_in_nI (by omega) (by decide)) ?_
        refine wp_goto (pc := 33) (tgt := 37) dX12_aloneWorth_33 rfl ?_
        refine wp_iadd (pc := 37) dX12_aloneWorth_37 ?_
        refine wp_istore_n (pc := 38) dX12_aloneWorth_38 (by decide) ?_
        refine wp_iinc (pc := 39) dX12_aloneWorth_39 (by decide) (by first | rfl | assumption | (repeat first | assumption | rfl | refine aG_n ?_ rfl rfl)) rfl ?_
        refine wp_goto (pc := 42) (tgt := 4) dX12_aloneWorth_42 rfl ?_
        exact l_aw hp hs hA k f (t + 1) (by omega) _ (by first | rfl | assumption | (repeat first | assumption | rfl | refine aG_n ?_ rfl rfl)) (by first | rfl | assumption | (repeat first | assumption | rfl | refine aG_n ?_ rfl rfl)) (by rw [← e, ← a2, ← ct]; simp only [ct]; first | rfl | assumption | (repeat first | assumption | rfl | refine aG_n ?_ rfl rfl)) (by rw [cn_y hb, ← nI_i1]; first | rfl | assumption | (repeat first | assumption | rfl | refine aG_n ?_ rfl rfl))
      · have e : sumF (gv p c) s t + 0 = sumF (gv p c) s (t + 1) := by show _ = sumF (gv p c) s t + _; rw [if_neg hs2]
        refine wp_iload_n (pc := 4) dX12_aloneWorth_4 (by first | rfl | assumption | (repeat first | assumption | rfl | refine aG_n ?_ rfl rfl)) ?_
        refine wp_aload_n (pc := 5) dX12_aloneWorth_5 (by first | rfl | assumption | (repeat first | assumption | rfl | refine aG_n ?_ rfl rfl)) ?_
        refine wp_getI (pc := 6) dX12_aloneWorth_6 fl_12_295 (by first | rfl | assumption | exact sh_house (by omega) | exact sh_wish (by omega) | exact sh_wor (by omega) | exact sh_bar (by omega) | exact sh_term (by omega) | exact sh_sheet (by omega) | exact sh_items (by omega) | exact sh_sums (by omega)) rfl ?_
        refine wp_icmp_ge (pc := 9) (tgt := 45) dX12_aloneWorth_9 rfl (fun q => absurd q (by rw [hA.1]; exact nI_ge (by omega) (by omega))) (fun _ => ?_)
        refine wp_iload_n (pc := 12) dX12_aloneWorth_12 (by first | rfl | assumption | (repeat first | assumption | rfl | refine aG_n ?_ rfl rfl)) ?_
        refine wp_iload_n (pc := 13) dX12_aloneWorth_13 (by first | rfl | assumption | (repeat first | assumption | rfl | refine aG_n ?_ rfl rfl)) ?_
        refine wp_aload_n (pc := 14) dX12_aloneWorth_14 (by first | rfl | assumption | (repeat first | assumption | rfl | refine aG_n ?_ rfl rfl)) ?_
        refine wp_getR (pc := 15) dX12_aloneWorth_15 fl_12_65 (by first | rfl | assumption | exact sh_house (by omega) | exact sh_wish (by omega) | exact sh_wor (by omega) | exact sh_bar (by omega) | exact sh_term (by omega) | exact sh_sheet (by omega) | exact sh_items (by omega) | exact sh_sums (by omega)) rfl ?_
        refine wp_iload_n (pc := 18) dX12_aloneWorth_18 (by first | rfl | assumption | (repeat first | assumption | rfl | refine aG_n ?_ rfl rfl)) ?_
        refine wp_iald (pc := 19) dX12_aloneWorth_19 (by first | rfl | assumption | exact sh_house (by omega) | exact sh_wish (by omega) | exact sh_wor (by omega) | exact sh_bar (by omega) | exact sh_term (by omega) | exact sh_sheet (by omega) | exact sh_items (by omega) | exact sh_sums (by omega)) (vp_in_nI (by omega) (by decide)) ?_
        refine wp_ishr (pc := 20) dX12_aloneWorth_20 ?_
        refine wp_iconst (pc := 21) (v := 1) dX12_aloneWorth_21 (by decide) ?_
        refine wp_iand (pc := 22) dX12_aloneWorth_22 ?_
        refine wp_iconst (pc := 23) (v := 1) dX12_aloneWorth_23 (by decide) ?_
        refine wp_icmp_ne (pc := 24) (tgt := 36) dX12_aloneWorth_24 rfl (fun _ => ?_) (fun q => absurd q (by rw [ct, a1]; exact fun z => hs2 ((bit_i s hs t (by omega)).mp z)))
        refine wp_iconst (pc := 36) (v := 0) dX12_aloneWorth_36 (by decide) ?_
        refine wp_iadd (pc := 37) dX12_aloneWorth_37 ?_
        refine wp_istore_n (pc := 38) dX12_aloneWorth_38 (by decide) ?_
        refine wp_iinc (pc := 39) dX12_aloneWorth_39 (by decide) (by first | rfl | assumption | (repeat first | assumption | rfl | refine aG_n ?_ rfl rfl)) rfl ?_
        refine wp_goto (pc := 42) (tgt := 4) dX12_aloneWorth_42 rfl ?_
        exact l_aw hp hs hA k f (t + 1) (by omega) _ (by first | rfl | assumption | (repeat first | assumption | rfl | refine aG_n ?_ rfl rfl)) (by first | rfl | assumption | (repeat first | assumption | rfl | refine aG_n ?_ rfl rfl)) (by rw [← e]; first | rfl | assumption | (repeat first | assumption | rfl | refine aG_n ?_ rfl rfl)) (by rw [cn_y hb, ← nI_i1]; first | rfl | assumption | (repeat first | assumption | rfl | refine aG_n ?_ rfl rfl))
    · have ez : gv p c t = 0 := by unfold gv gvN; rw [if_neg hb]; rfl
      have e : sumF (gv p c) s (t + 1) = sumF (gv p c) s t := by
        show sumF (gv p c) s t + _ = _
        rw [ez]
        split <;> exact Int32.add_zero _
      exact l_aw hp hs hA k f (t + 1) (by omega) L g0 g1 (by rw [e]; exact g2) (by rw [cn_n hb]; exact g3)
theorem c_aw {x : Int32} (hp : p < 64) (hs : s < 64) (hx : x = nI s) (hA : AS μ.1 p c) (k : Q (some (.int (svG p c s))) μ) : WP X mX12_aloneWorth 0 (lv_args 0 [.ref 86, .int x]) [] μ Q := by
  subst hx
  refine wp_iconst (pc := 0) (v := 0) dX12_aloneWorth_0 (by decide) ?_
  refine wp_istore_n (pc := 1) dX12_aloneWorth_1 (by decide) ?_
  refine wp_iconst (pc := 2) (v := 0) dX12_aloneWorth_2 (by decide) ?_
  refine wp_istore_n (pc := 3) dX12_aloneWorth_3 (by decide) ?_
  exact l_aw hp hs hA k 6 0 (by omega) _ (by first | rfl | assumption | (repeat first | assumption | rfl | refine aG_n ?_ rfl rfl)) (by first | rfl | assumption | (repeat first | assumption | rfl | refine aG_n ?_ rfl rfl)) (by first | rfl | assumption | (repeat first | assumption | rfl | refine aG_n ?_ rfl rfl)) (by first | rfl | assumption | (repeat first | assumption | rfl | refine aG_n ?_ rfl rfl))
end ALONE
/-! what GW comes to -/
section GWS
variable {M : MM} {R : Nat → Nat → Nat} {a b w ta tb d c pl : Nat}
theorem GW_Y (hL : LK M R a b w ta tb) (hpl : pl < w) (hY : gY M a b ta tb d (ta ||| tb) c pl (lvG M (two a b d) (pl / 2))) : GW M a b ta tb d c pl ↔ M 100 pl = 3 := by
  have l9 := hL.2.2.2.2.2.2.2.2 pl hpl
  unfold GW
  constructor
  · rintro ⟨kd, st, pr, hR, x1, x2, x3⟩
    obtain ⟨rfl, -, -⟩ := chR_u (Or.inl ⟨hY, rfl, rfl, rfl⟩) hR
    exact x1
  · intro h3
    have hn : ¬ isOf M pl := by unfold isOf; rw [h3]; decide
    obtain ⟨y1, y2⟩ := l9.2 hn
    exact ⟨3, 0, 0, Or.inl ⟨hY, rfl, rfl, rfl⟩, h3, y1, y2⟩
theorem GW_W (hL : LK M R a b w ta tb) (hpl : pl < w) (hY : ¬ gY M a b ta tb d (ta ||| tb) c pl (lvG M (two a b d) (pl / 2))) {q : (Nat → Nat) × Nat} (hq : rkF (okG ta tb) (wG (ta ||| tb) c (two ta tb d)) 64 = q) (hz : ¬ q.2 = 0) (hp : ¬ inR (pfG (ta ||| tb) c (two ta tb d) d (lvG M (two a b d) (pl / 2)) (q.1 (pl / 2 % q.2))) (-999) 999) : GW M a b ta tb d c pl ↔ M 100 pl = 4 := by
  have l9 := hL.2.2.2.2.2.2.2.2 pl hpl
  unfold GW
  rw [hq]
  constructor
  · rintro ⟨kd, st, pr, hR, x1, x2, x3⟩
    obtain ⟨rfl, -, -⟩ := chR_u (Or.inr (Or.inl ⟨hY, Or.inr ⟨hz, hp⟩, rfl, rfl, rfl⟩)) hR
    exact x1
  · intro h3
    have hn : ¬ isOf M pl := by unfold isOf; rw [h3]; decide
    obtain ⟨y1, y2⟩ := l9.2 hn
    exact ⟨4, 0, 0, Or.inr (Or.inl ⟨hY, Or.inr ⟨hz, hp⟩, rfl, rfl, rfl⟩), h3, y1, y2⟩
theorem GW_O (hL : LK M R a b w ta tb) (hpl : pl < w) (hY : ¬ gY M a b ta tb d (ta ||| tb) c pl (lvG M (two a b d) (pl / 2))) {q : (Nat → Nat) × Nat} (hq : rkF (okG ta tb) (wG (ta ||| tb) c (two ta tb d)) 64 = q) (hz : ¬ q.2 = 0) (hp : inR (pfG (ta ||| tb) c (two ta tb d) d (lvG M (two a b d) (pl / 2)) (q.1 (pl / 2 % q.2))) (-999) 999) : GW M a b ta tb d c pl ↔ isOf M pl ∧ M 101 pl = nI (q.1 (pl / 2 % q.2)) ∧ M 102 pl = pfG (ta ||| tb) c (two ta tb d) d (lvG M (two a b d) (pl / 2)) (q.1 (pl / 2 % q.2)) := by
  have l9 := hL.2.2.2.2.2.2.2.2 pl hpl
  unfold GW
  rw [hq]
  constructor
  · rintro ⟨kd, st, pr, hR, x1, x2, x3⟩
    rcases hR with ⟨y, -⟩ | ⟨-, n, -⟩ | ⟨-, -, -, o, rfl, rfl⟩
    · exact absurd y hY
    · exact absurd n (fun z => z.elim hz (fun w => w.2 hp))
    · refine ⟨?_, x2, x3⟩
      unfold isOf
      rcases o with ⟨-, rfl⟩ | ⟨-, rfl⟩
      · exact Or.inr x1
      · exact Or.inl x1
  · rintro ⟨h1, h2, h3⟩
    have e2 := (l9.1 h1).2
    refine ⟨M 100 pl, _, _, Or.inr (Or.inr ⟨hY, hz, hp, ?_, rfl, rfl⟩), rfl, h2, h3⟩
    by_cases o : 0 < pl ∧ isOf M (pl - 1)
    · exact Or.inl ⟨o, e2.mpr o⟩
    · refine Or.inr ⟨o, ?_⟩
      rcases h1 with z | z
      · exact z
      · exact absurd (e2.mp z) o
theorem GW_c {M' : MM} (ha : a < 4) (hb : b < 4) (hr : ∀ x, (89 ≤ x ∧ x ≤ 91) ∨ (100 ≤ x ∧ x ≤ 102) ∨ (55 ≤ x ∧ x ≤ 70) → M' x = M x) (h25 : M' 86 25 = M 86 25) (h26 : M' 86 26 = M 86 26) : GW M' a b ta tb d c pl ↔ GW M a b ta tb d c pl := by
  have hh : two b a d < 4 := two_lt hb ha
  unfold GW gY lvG isOf wu
  rw [hr 89 (by omega), hr 90 (by omega), hr 91 (by omega), hr 100 (by omega), hr 101 (by omega), hr 102 (by omega), hr (58 + 4 * two b a d) (by omega), h25, h26]
end GWS
theorem rk_pos {ok : Nat → Bool} {w : Nat → Int32} (h0 : ok 0 = true) : ∀ s, 0 < s → 0 < (rkF ok w s).2
  | 0, h => absurd h (by omega)
  | s + 1, _ => by
    unfold rkF
    by_cases e : s = 0
    · subst e; rw [if_pos h0]; exact Nat.succ_pos _
    · have := rk_pos (w := w) h0 s (by omega)
      split
      · exact Nat.succ_pos _
      · exact this
theorem okG_0 (ta tb : Nat) : okG ta tb 0 = true := by
  unfold okG
  refine decide_eq_true ?_
  apply Int32.toBitVec_inj.mp
  rw [Int32.toBitVec_and]
  show 0#32 &&& _ = _
  rw [BitVec.zero_and]; rfl
section WSAY
variable {X : aX} {μ : Mm} {Q : Option Value → Mm → Prop} {a b w ta tb d c pl : Nat} {R : Nat → Nat → Nat}
theorem l_ws243 {lv sg hv : Int32} {td : Nat} (htd : td < 64) (hta : ta < 64) (htb : tb < 64) (h23 : μ.1 86 23 = nI ta) (h24 : μ.1 86 24 = nI tb) (hA : AS μ.1 (ta ||| tb) c) (k : ∀ μ', offM μ μ' → chP μ'.1 (wG (ta ||| tb) c td) (rkF (okG ta tb) (wG (ta ||| tb) c td) 64) → ∀ L : aL, aL_get L 0 = some (.ref 86) → aL_get L 1 = some (.int hv) → aL_get L 2 = some (.int (nI pl)) → aL_get L 3 = some (.int (nI td)) → aL_get L 6 = some (.int lv) → aL_get L 7 = some (.int sg) → WP X mX12_wouldSay 287 L [] μ' Q) : ∀ (f s : Nat), s + f = 64 → ∀ μ', offM μ μ' → chP μ'.1 (wG (ta ||| tb) c td) (rkF (okG ta tb) (wG (ta ||| tb) c td) s) → ∀ L : aL, aL_get L 0 = some (.ref 86) → aL_get L 1 = some (.int hv) → aL_get L 2 = some (.int (nI pl)) → aL_get L 3 = some (.int (nI td)) → aL_get L 6 = some (.int lv) → aL_get L 7 = some (.int sg) → aL_get L 8 = some (.int (nI s)) → WP X mX12_wouldSay 243 L [] μ' Q
  | 0, s, hs, μ', ho, hc, L, g0, g1, g2, g3, g6, g7, g8 => by
    obtain rfl : s = 64 := by omega
    refine wp_iload (pc := 243) dX12_wouldSay_243 (by first | rfl | assumption | (repeat first | assumption | rfl | refine aG_n ?_ rfl rfl)) ?_
    refine wp_bipush (pc := 245) (v := 64) dX12_wouldSay_245 (by decide) ?_
    refine wp_icmp_ge (pc := 247) (tgt := 287) dX12_wouldSay_247 rfl (fun _ => ?_) (fun q => absurd (nI_le (a := 64) (b := 64) (by omega) (by omega)) q)
    exact k _ ho hc _ g0 g1 g2 g3 g6 g7
  | f + 1, s, hs, μ', ho, hc, L, g0, g1, g2, g3, g6, g7, g8 => by
    obtain ⟨r1, r2⟩ := rkF_p (okG ta tb) (wG (ta ||| tb) c td) s
    have e23 : μ'.1 86 23 = nI ta := by rw [ho.1 86 23 (by omega)]; exact h23
    have e24 : μ'.1 86 24 = nI tb := by rw [ho.1 86 24 (by omega)]; exact h24
    by_cases c1 : nI s &&& ((nI ta ||| nI tb) ^^^ (-1)) = 0
    · have eok : rkF (okG ta tb) (wG (ta ||| tb) c td) (s + 1) = inF (wG (ta ||| tb) c td) s (rkF (okG ta tb) (wG (ta ||| tb) c td) s) := if_pos (decide_eq_true c1)
      refine wp_iload (pc := 243) dX12_wouldSay_243 (by first | rfl | assumption | (repeat first | assumption | rfl | refine aG_n ?_ rfl rfl)) ?_
      refine wp_bipush (pc := 245) (v := 64) dX12_wouldSay_245 (by decide) ?_
      refine wp_icmp_ge (pc := 247) (tgt := 287) dX12_wouldSay_247 rfl (fun q => absurd q (nI_ge (a := s) (b := 64) (by omega) (by omega))) (fun _ => ?_)
      refine wp_iload (pc := 250) dX12_wouldSay_250 (by first | rfl | assumption | (repeat first | assumption | rfl | refine aG_n ?_ rfl rfl)) ?_
      refine wp_aload_n (pc := 252) dX12_wouldSay_252 (by first | rfl | assumption | (repeat first | assumption | rfl | refine aG_n ?_ rfl rfl)) ?_
      refine wp_getI (pc := 253) dX12_wouldSay_253 fl_12_247 (by first | rfl | assumption | exact sh_house (by omega) | exact sh_wish (by omega) | exact sh_wor (by omega) | exact sh_bar (by omega) | exact sh_term (by omega) | exact sh_sheet (by omega) | exact sh_items (by omega) | exact sh_sums (by omega)) rfl ?_
      refine wp_aload_n (pc := 256) dX12_wouldSay_256 (by first | rfl | assumption | (repeat first | assumption | rfl | refine aG_n ?_ rfl rfl)) ?_
      refine wp_getI (pc := 257) dX12_wouldSay_257 fl_12_250 (by first | rfl | assumption | exact sh_house (by omega) | exact sh_wish (by omega) | exact sh_wor (by omega) | exact sh_bar (by omega) | exact sh_term (by omega) | exact sh_sheet (by omega) | exact sh_items (by omega) | exact sh_sums (by omega)) rfl ?_
      refine wp_ior (pc := 260) dX12_wouldSay_260 ?_
      refine wp_iconst (pc := 261) (v := -1) dX12_wouldSay_261 (by decide) ?_
      refine wp_ixor (pc := 262) dX12_wouldSay_262 ?_
      refine wp_iand (pc := 263) dX12_wouldSay_263 ?_
      refine wp_if_ne (pc := 264) (tgt := 281) dX12_wouldSay_264 rfl (fun q => absurd (by rw [e23, e24]; exact c1) q) (fun _ => ?_)
      refine wp_aload_n (pc := 267) dX12_wouldSay_267 (by first | rfl | assumption | (repeat first | assumption | rfl | refine aG_n ?_ rfl rfl)) ?_
      refine wp_iload (pc := 268) dX12_wouldSay_268 (by first | rfl | assumption | (repeat first | assumption | rfl | refine aG_n ?_ rfl rfl)) ?_
      refine wp_aload_n (pc := 270) dX12_wouldSay_270 (by first | rfl | assumption | (repeat first | assumption | rfl | refine aG_n ?_ rfl rfl)) ?_
      refine wp_iload_n (pc := 271) dX12_wouldSay_271 (by first | rfl | assumption | (repeat first | assumption | rfl | refine aG_n ?_ rfl rfl)) ?_
      refine wp_iload (pc := 272) dX12_wouldSay_272 (by first | rfl | assumption | (repeat first | assumption | rfl | refine aG_n ?_ rfl rfl)) ?_
      refine wp_ixor (pc := 274) dX12_wouldSay_274 ?_
      refine wp_cV (pc := 275) dX12_wouldSay_275 lk_12_298 rfl (by decide) rfl (by first | rfl | assumption | exact sh_house (by omega) | exact sh_wish (by omega) | exact sh_wor (by omega) | exact sh_bar (by omega) | exact sh_term (by omega) | exact sh_sheet (by omega) | exact sh_items (by omega) | exact sh_sums (by omega)) rfl rfl ?_
      refine c_aw (o64 hta htb) (x64 htd (show s < 64 by omega)) (xor6 htd (show s < 64 by omega)) (ho.as hA) ?_
      rw [show svG (ta ||| tb) c (td ^^^ s) = wG (ta ||| tb) c td s from rfl]
      refine aK_i ?_
      refine wp_cV (pc := 278) dX12_wouldSay_278 lk_12_281 rfl (by decide) rfl (by first | rfl | assumption | exact sh_house (by omega) | exact sh_wish (by omega) | exact sh_wor (by omega) | exact sh_bar (by omega) | exact sh_term (by omega) | exact sh_sheet (by omega) | exact sh_items (by omega) | exact sh_sums (by omega)) rfl rfl ?_
      refine c_X12_addChoice (show s < 64 by omega) (by omega) hc (fun μ2 o2 d2 => aK_v ?_)
      refine wp_iinc (pc := 281) dX12_wouldSay_281 (by decide) (by first | rfl | assumption | (repeat first | assumption | rfl | refine aG_n ?_ rfl rfl)) rfl ?_
      refine wp_goto (pc := 284) (tgt := 243) dX12_wouldSay_284 rfl ?_
      exact l_ws243 htd hta htb h23 h24 hA k f (s + 1) (by omega) _ (ho.tr o2) (by rw [eok]; exact d2) _ (by first | rfl | assumption | (repeat first | assumption | rfl | refine aG_n ?_ rfl rfl)) (by first | rfl | assumption | (repeat first | assumption | rfl | refine aG_n ?_ rfl rfl)) (by first | rfl | assumption | (repeat first | assumption | rfl | refine aG_n ?_ rfl rfl)) (by first | rfl | assumption | (repeat first | assumption | rfl | refine aG_n ?_ rfl rfl)) (by first | rfl | assumption | (repeat first | assumption | rfl | refine aG_n ?_ rfl rfl)) (by first | rfl | assumption | (repeat first | assumption | rfl | refine aG_n ?_ rfl rfl)) (by rw [← nI_i1]; first | rfl | assumption | (repeat first | assumption | rfl | refine aG_n ?_ rfl rfl))
    · have eok : rkF (okG ta tb) (wG (ta ||| tb) c td) (s + 1) = rkF (okG ta tb) (wG (ta ||| tb) c td) s := if_neg (fun z => c1 (of_decide_eq_true z))
      refine wp_iload (pc := 243) dX12_wouldSay_243 (by first | rfl | assumption | (repeat first | assumption | rfl | refine aG_n ?_ rfl rfl)) ?_
      refine wp_bipush (pc := 245) (v := 64) dX12_wouldSay_245 (by decide) ?_
      refine wp_icmp_ge (pc := 247) (tgt := 287) dX12_wouldSay_247 rfl (fun q => absurd q (nI_ge (a := s) (b := 64) (by omega) (by omega))) (fun _ => ?_)
      refine wp_iload (pc := 250) dX12_wouldSay_250 (by first | rfl | assumption | (repeat first | assumption | rfl | refine aG_n ?_ rfl rfl)) ?_
      refine wp_aload_n (pc := 252) dX12_wouldSay_252 (by first | rfl | assumption | (repeat first | assumption | rfl | refine aG_n ?_ rfl rfl)) ?_
      refine wp_getI (pc := 253) dX12_wouldSay_253 fl_12_247 (by first | rfl | assumption | exact sh_house (by omega) | exact sh_wish (by omega) | exact sh_wor (by omega) | exact sh_bar (by omega) | exact sh_term (by omega) | exact sh_sheet (by omega) | exact sh_items (by omega) | exact sh_sums (by omega)) rfl ?_
      refine wp_aload_n (pc := 256) dX12_wouldSay_256 (by first | rfl | assumption | (repeat first | assumption | rfl | refine aG_n ?_ rfl rfl)) ?_
      refine wp_getI (pc := 257) dX12_wouldSay_257 fl_12_250 (by first | rfl | assumption | exact sh_house (by omega) | exact sh_wish (by omega) | exact sh_wor (by omega) | exact sh_bar (by omega) | exact sh_term (by omega) | exact sh_sheet (by omega) | exact sh_items (by omega) | exact sh_sums (by omega)) rfl ?_
      refine wp_ior (pc := 260) dX12_wouldSay_260 ?_
      refine wp_iconst (pc := 261) (v := -1) dX12_wouldSay_261 (by decide) ?_
      refine wp_ixor (pc := 262) dX12_wouldSay_262 ?_
      refine wp_iand (pc := 263) dX12_wouldSay_263 ?_
      refine wp_if_ne (pc := 264) (tgt := 281) dX12_wouldSay_264 rfl (fun _ => ?_) (fun q => absurd q (by rw [e23, e24]; exact c1))
      refine wp_iinc (pc := 281) dX12_wouldSay_281 (by decide) (by first | rfl | assumption | (repeat first | assumption | rfl | refine aG_n ?_ rfl rfl)) rfl ?_
      refine wp_goto (pc := 284) (tgt := 243) dX12_wouldSay_284 rfl ?_
      exact l_ws243 htd hta htb h23 h24 hA k f (s + 1) (by omega) _ ho (by rw [eok]; exact hc) _ (by first | rfl | assumption | (repeat first | assumption | rfl | refine aG_n ?_ rfl rfl)) (by first | rfl | assumption | (repeat first | assumption | rfl | refine aG_n ?_ rfl rfl)) (by first | rfl | assumption | (repeat first | assumption | rfl | refine aG_n ?_ rfl rfl)) (by first | rfl | assumption | (repeat first | assumption | rfl | refine aG_n ?_ rfl rfl)) (by first | rfl | assumption | (repeat first | assumption | rfl | refine aG_n ?_ rfl rfl)) (by first | rfl | assumption | (repeat first | assumption | rfl | refine aG_n ?_ rfl rfl)) (by rw [← nI_i1]; first | rfl | assumption | (repeat first | assumption | rfl | refine aG_n ?_ rfl rfl))
theorem l_ws235 {lv sg hv : Int32} (hL : LK μ.1 R a b w ta tb) (hd : d < 2) (hpl : pl < w) (hA : AS μ.1 (ta ||| tb) c) (hlv : lv = lvG μ.1 (two a b d) (pl / 2)) (hsg : (d = 0 ∧ sg = -1) ∨ (d = 1 ∧ sg = 1)) (hY : ¬ gY μ.1 a b ta tb d (ta ||| tb) c pl (lvG μ.1 (two a b d) (pl / 2))) (kt : GW μ.1 a b ta tb d c pl → ∀ μ', offM μ μ' → Q (some (.int 1)) μ') (kf : ¬ GW μ.1 a b ta tb d c pl → ∀ μ', offM μ μ' → Q (some (.int 0)) μ') (L : aL) (g0 : aL_get L 0 = some (.ref 86)) (g1 : aL_get L 1 = some (.int hv)) (g2 : aL_get L 2 = some (.int (nI pl))) (g3 : aL_get L 3 = some (.int (nI (two ta tb d)))) (g6 : aL_get L 6 = some (.int lv)) (g7 : aL_get L 7 = some (.int sg)) : WP X mX12_wouldSay 235 L [] μ Q := by
  obtain ⟨⟨ha, hb, hab⟩, -, ⟨hw, l31, l32⟩, ⟨hta, htb⟩, ⟨l51, l52, l53, l54⟩, -, -, -, l9⟩ := id hL
  have htd : two ta tb d < 64 := by unfold two; split <;> assumption
  have cpl : (nI pl).toNatClampNeg = pl := nI_clamp (by omega)
  have ed : nI pl / 2 = nI (pl / 2) := pk_div (d := 2) (by omega) (by decide) (by decide)
  have hp0 := rk_pos (w := wG (ta ||| tb) c (two ta tb d)) (okG_0 ta tb) 64 (by omega)
  obtain ⟨rp1, rp2⟩ := rkF_p (okG ta tb) (wG (ta ||| tb) c (two ta tb d)) 64
  have hk : ∀ μ', offM μ μ' → chP μ'.1 (wG (ta ||| tb) c (two ta tb d)) (rkF (okG ta tb) (wG (ta ||| tb) c (two ta tb d)) 64) → ∀ L : aL, aL_get L 0 = some (.ref 86) → aL_get L 1 = some (.int hv) → aL_get L 2 = some (.int (nI pl)) → aL_get L 3 = some (.int (nI (two ta tb d))) → aL_get L 6 = some (.int lv) → aL_get L 7 = some (.int sg) → WP X mX12_wouldSay 287 L [] μ' Q := by
    intro μ' ho hc L g0 g1 g2 g3 g6 g7
    obtain ⟨q, hq⟩ : ∃ q, rkF (okG ta tb) (wG (ta ||| tb) c (two ta tb d)) 64 = q := ⟨_, rfl⟩
    rw [hq] at hc rp1 rp2 hp0
    have hm2 : pl / 2 % q.2 < q.2 := Nat.mod_lt _ hp0
    have er : nI (pl / 2) - nI (pl / 2) / nI q.2 * nI q.2 = nI (pl / 2 % q.2) := pk_rem (by omega) (by omega) (by omega)
    have cr : (nI (pl / 2 % q.2)).toNatClampNeg = pl / 2 % q.2 := nI_clamp (by omega)
    have hs64 := rp2 _ hm2
    have hz : ¬ q.2 = 0 := by omega
    have hA' := ho.as hA
    have w100 : μ'.1 100 pl = μ.1 100 pl := ho.1 100 pl (by omega)
    have w101 : μ'.1 101 pl = μ.1 101 pl := ho.1 101 pl (by omega)
    have w102 : μ'.1 102 pl = μ.1 102 pl := ho.1 102 pl (by omega)
    have eofl : isOf μ'.1 pl ↔ isOf μ.1 pl := by unfold isOf; rw [w100]
    have epr : sg * (lv - (svG (ta ||| tb) c (two ta tb d ^^^ q.1 (pl / 2 % q.2)) - svG (ta ||| tb) c (two ta tb d))) = pfG (ta ||| tb) c (two ta tb d) d (lvG μ.1 (two a b d) (pl / 2)) (q.1 (pl / 2 % q.2)) := by
      unfold pfG
      rw [← hlv]
      rcases hsg with ⟨rfl, rfl⟩ | ⟨rfl, rfl⟩
      · rw [neg1_mul, Int32.neg_sub]; rfl
      · rw [Int32.one_mul]; rfl
    have tail : ∀ μ3 : Mm, μ3 = μ' → ∀ L : aL, aL_get L 0 = some (.ref 86) → aL_get L 2 = some (.int (nI pl)) → aL_get L 8 = some (.int (nI (q.1 (pl / 2 % q.2)))) → aL_get L 10 = some (.int (pfG (ta ||| tb) c (two ta tb d) d (lvG μ.1 (two a b d) (pl / 2)) (q.1 (pl / 2 % q.2)))) → WP X mX12_wouldSay 328 L [] μ3 Q := by
      intro μ3 e3 L g0 g2 g8 g10
      subst e3
      by_cases c3 : inR (pfG (ta ||| tb) c (two ta tb d) d (lvG μ.1 (two a b d) (pl / 2)) (q.1 (pl / 2 % q.2))) (-999) 999
      · have hG := GW_O (c := c) hL hpl hY hq hz c3
        by_cases o1 : isOf μ.1 pl
        · have o1' : ofW μ3.1 w (nI pl) := (ofW_q hw hpl).mpr (eofl.mpr o1)
          by_cases o2 : μ.1 101 pl = nI (q.1 (pl / 2 % q.2))
          · by_cases o3 : μ.1 102 pl = pfG (ta ||| tb) c (two ta tb d) d (lvG μ.1 (two a b d) (pl / 2)) (q.1 (pl / 2 % q.2))
            · refine wp_iload (pc := 328) dX12_wouldSay_328 (by first | rfl | assumption | (repeat first | assumption | rfl | refine aG_n ?_ rfl rfl)) ?_
              refine wp_i2l (pc := 330) dX12_wouldSay_330 ?_
              refine wp_ldc2 (pc := 331) dX12_wouldSay_331 cl_12_218 ?_
              refine wp_ldc2 (pc := 334) dX12_wouldSay_334 cl_12_216 ?_
              refine wp_cS (pc := 337) dX12_wouldSay_337 lk_12_133 rfl rfl rfl (c_X12_in (fun _ => aK_i ?_) (fun q => absurd (by rw [w_int]; exact c3) q))
              refine wp_if_ne (pc := 340) (tgt := 359) dX12_wouldSay_340 rfl (fun _ => ?_) (fun q => absurd q (by decide))
              refine wp_aload_n (pc := 359) dX12_wouldSay_359 (by first | rfl | assumption | (repeat first | assumption | rfl | refine aG_n ?_ rfl rfl)) ?_
              refine wp_iload_n (pc := 360) dX12_wouldSay_360 (by first | rfl | assumption | (repeat first | assumption | rfl | refine aG_n ?_ rfl rfl)) ?_
              refine wp_cV (pc := 361) dX12_wouldSay_361 lk_12_266 rfl (by decide) rfl (by first | rfl | assumption | exact sh_house (by omega) | exact sh_wish (by omega) | exact sh_wor (by omega) | exact sh_bar (by omega) | exact sh_term (by omega) | exact sh_sheet (by omega) | exact sh_items (by omega) | exact sh_sums (by omega)) rfl rfl (c_X12_isOffer hw (by rw [ho.1 86 19 (by omega)]; exact l32) (fun _ => aK_i ?_) (fun q => absurd o1' q))
              refine wp_if_eq (pc := 364) (tgt := 393) dX12_wouldSay_364 rfl (fun q => absurd q (by decide)) (fun _ => ?_)
              refine wp_aload_n (pc := 367) dX12_wouldSay_367 (by first | rfl | assumption | (repeat first | assumption | rfl | refine aG_n ?_ rfl rfl)) ?_
              refine wp_getR (pc := 368) dX12_wouldSay_368 fl_12_53 (by first | rfl | assumption | exact sh_house (by omega) | exact sh_wish (by omega) | exact sh_wor (by omega) | exact sh_bar (by omega) | exact sh_term (by omega) | exact sh_sheet (by omega) | exact sh_items (by omega) | exact sh_sums (by omega)) rfl ?_
              refine wp_iload_n (pc := 371) dX12_wouldSay_371 (by first | rfl | assumption | (repeat first | assumption | rfl | refine aG_n ?_ rfl rfl)) ?_
              refine wp_iald (pc := 372) dX12_wouldSay_372 (by first | rfl | assumption | exact sh_house (by omega) | exact sh_wish (by omega) | exact sh_wor (by omega) | exact sh_bar (by omega) | exact sh_term (by omega) | exact sh_sheet (by omega) | exact sh_items (by omega) | exact sh_sums (by omega)) (vp_in_nI (by omega) (by decide)) ?_
              refine wp_iload (pc := 373) dX12_wouldSay_373 (by first | rfl | assumption | (repeat first | assumption | rfl | refine aG_n ?_ rfl rfl)) ?_
              refine wp_icmp_ne (pc := 375) (tgt := 393) dX12_wouldSay_375 rfl (fun q => absurd (by rw [cpl, w101]; exact o2) q) (fun _ => ?_)
              refine wp_aload_n (pc := 378) dX12_wouldSay_378 (by first | rfl | assumption | (repeat first | assumption | rfl | refine aG_n ?_ rfl rfl)) ?_
              refine wp_getR (pc := 379) dX12_wouldSay_379 fl_12_56 (by first | rfl | assumption | exact sh_house (by omega) | exact sh_wish (by omega) | exact sh_wor (by omega) | exact sh_bar (by omega) | exact sh_term (by omega) | exact sh_sheet (by omega) | exact sh_items (by omega) | exact sh_sums (by omega)) rfl ?_
              refine wp_iload_n (pc := 382) dX12_wouldSay_382 (by first | rfl | assumption | (repeat first | assumption | rfl | refine aG_n ?_ rfl rfl)) ?_
              refine wp_iald (pc := 383) dX12_wouldSay_383 (by first | rfl | assumption | exact sh_house (by omega) | exact sh_wish (by omega) | exact sh_wor (by omega) | exact sh_bar (by omega) | exact sh_term (by omega) | exact sh_sheet (by omega) | exact sh_items (by omega) | exact sh_sums (by omega)) (vp_in_nI (by omega) (by decide)) ?_
              refine wp_iload (pc := 384) dX12_wouldSay_384 (by first | rfl | assumption | (repeat first | assumption | rfl | refine aG_n ?_ rfl rfl)) ?_
              refine wp_icmp_ne (pc := 386) (tgt := 393) dX12_wouldSay_386 rfl (fun q => absurd (by rw [cpl, w102]; exact o3) q) (fun _ => ?_)
              refine wp_iconst (pc := 389) (v := 1) dX12_wouldSay_389 (by decide) ?_
              refine wp_goto (pc := 390) (tgt := 394) dX12_wouldSay_390 rfl ?_
              refine wp_ireturn (pc := 394) dX12_wouldSay_394 rfl (by first | rfl | decide | assumption) ?_
              exact kt (hG.mpr ⟨o1, o2, o3⟩) _ ho
            · refine wp_iload (pc := 328) dX12_wouldSay_328 (by first | rfl | assumption | (repeat first | assumption | rfl | refine aG_n ?_ rfl rfl)) ?_
              refine wp_i2l (pc := 330) dX12_wouldSay_330 ?_
              refine wp_ldc2 (pc := 331) dX12_wouldSay_331 cl_12_218 ?_
              refine wp_ldc2 (pc := 334) dX12_wouldSay_334 cl_12_216 ?_
              refine wp_cS (pc := 337) dX12_wouldSay_337 lk_12_133 rfl rfl rfl (c_X12_in (fun _ => aK_i ?_) (fun q => absurd (by rw [w_int]; exact c3) q))
              refine wp_if_ne (pc := 340) (tgt := 359) dX12_wouldSay_340 rfl (fun _ => ?_) (fun q => absurd q (by decide))
              refine wp_aload_n (pc := 359) dX12_wouldSay_359 (by first | rfl | assumption | (repeat first | assumption | rfl | refine aG_n ?_ rfl rfl)) ?_
              refine wp_iload_n (pc := 360) dX12_wouldSay_360 (by first | rfl | assumption | (repeat first | assumption | rfl | refine aG_n ?_ rfl rfl)) ?_
              refine wp_cV (pc := 361) dX12_wouldSay_361 lk_12_266 rfl (by decide) rfl (by first | rfl | assumption | exact sh_house (by omega) | exact sh_wish (by omega) | exact sh_wor (by omega) | exact sh_bar (by omega) | exact sh_term (by omega) | exact sh_sheet (by omega) | exact sh_items (by omega) | exact sh_sums (by omega)) rfl rfl (c_X12_isOffer hw (by rw [ho.1 86 19 (by omega)]; exact l32) (fun _ => aK_i ?_) (fun q => absurd o1' q))
              refine wp_if_eq (pc := 364) (tgt := 393) dX12_wouldSay_364 rfl (fun q => absurd q (by decide)) (fun _ => ?_)
              refine wp_aload_n (pc := 367) dX12_wouldSay_367 (by first | rfl | assumption | (repeat first | assumption | rfl | refine aG_n ?_ rfl rfl)) ?_
              refine wp_getR (pc := 368) dX12_wouldSay_368 fl_12_53 (by first | rfl | assumption | exact sh_house (by omega) | exact sh_wish (by omega) | exact sh_wor (by omega) | exact sh_bar (by omega) | exact sh_term (by omega) | exact sh_sheet (by omega) | exact sh_items (by omega) | exact sh_sums (by omega)) rfl ?_
              refine wp_iload_n (pc := 371) dX12_wouldSay_371 (by first | rfl | assumption | (repeat first | assumption | rfl | refine aG_n ?_ rfl rfl)) ?_
              refine wp_iald (pc := 372) dX12_wouldSay_372 (by first | rfl | assumption | exact sh_house (by omega) | exact sh_wish (by omega) | exact sh_wor (by omega) | exact sh_bar (by omega) | exact sh_term (by omega) | exact sh_sheet (by omega) | exact sh_items (by omega) | exact sh_sums (by omega)) (vp_in_nI (by omega) (by decide)) ?_
              refine wp_iload (pc := 373) dX12_wouldSay_373 (by first | rfl | assumption | (repeat first | assumption | rfl | refine aG_n ?_ rfl rfl)) ?_
              refine wp_icmp_ne (pc := 375) (tgt := 393) dX12_wouldSay_375 rfl (fun q => absurd (by rw [cpl, w101]; exact o2) q) (fun _ => ?_)
              refine wp_aload_n (pc := 378) dX12_wouldSay_378 (by first | rfl | assumption | (repeat first | assumption | rfl | refine aG_n ?_ rfl rfl)) ?_
              refine wp_getR (pc := 379) dX12_wouldSay_379 fl_12_56 (by first | rfl | assumption | exact sh_house (by omega) | exact sh_wish (by omega) | exact sh_wor (by omega) | exact sh_bar (by omega) | exact sh_term (by omega) | exact sh_sheet (by omega) | exact sh_items (by omega) | exact sh_sums (by omega)) rfl ?_
              refine wp_iload_n (pc := 382) dX12_wouldSay_382 (by first | rfl | assumption | (repeat first | assumption | rfl | refine aG_n ?_ rfl rfl)) ?_
              refine wp_iald (pc := 383) dX12_wouldSay_383 (by first | rfl | assumption | exact sh_house (by omega) | exact sh_wish (by omega) | exact sh_wor (by omega) | exact sh_bar (by omega) | exact sh_term (by omega) | exact sh_sheet (by omega) | exact sh_items (by omega) | exact sh_sums (by omega)) (vp_in_nI (by omega) (by decide)) ?_
              refine wp_iload (pc := 384) dX12_wouldSay_384 (by first | rfl | assumption | (repeat first | assumption | rfl | refine aG_n ?_ rfl rfl)) ?_
              refine wp_icmp_ne (pc := 386) (tgt := 393) dX12_wouldSay_386 rfl (fun _ => ?_) (fun q => absurd q (by rw [cpl, w102]; exact o3))
              refine wp_iconst (pc := 393) (v := 0) dX12_wouldSay_393 (by decide) ?_
              refine wp_ireturn (pc := 394) dX12_wouldSay_394 rfl (by first | rfl | decide | assumption) ?_
              exact kf (fun z => o3 (hG.mp z).2.2) _ ho
          · refine wp_iload (pc := 328) dX12_wouldSay_328 (by first | rfl | assumption | (repeat first | assumption | rfl | refine aG_n ?_ rfl rfl)) ?_
            refine wp_i2l (pc := 330) dX12_wouldSay_330 ?_
            refine wp_ldc2 (pc := 331) dX12_wouldSay_331 cl_12_218 ?_
            refine wp_ldc2 (pc := 334) dX12_wouldSay_334 cl_12_216 ?_
            refine wp_cS (pc := 337) dX12_wouldSay_337 lk_12_133 rfl rfl rfl (c_X12_in (fun _ => aK_i ?_) (fun q => absurd (by rw [w_int]; exact c3) q))
            refine wp_if_ne (pc := 340) (tgt := 359) dX12_wouldSay_340 rfl (fun _ => ?_) (fun q => absurd q (by decide))
            refine wp_aload_n (pc := 359) dX12_wouldSay_359 (by first | rfl | assumption | (repeat first | assumption | rfl | refine aG_n ?_ rfl rfl)) ?_
            refine wp_iload_n (pc := 360) dX12_wouldSay_360 (by first | rfl | assumption | (repeat first | assumption | rfl | refine aG_n ?_ rfl rfl)) ?_
            refine wp_cV (pc := 361) dX12_wouldSay_361 lk_12_266 rfl (by decide) rfl (by first | rfl | assumption | exact sh_house (by omega) | exact sh_wish (by omega) | exact sh_wor (by omega) | exact sh_bar (by omega) | exact sh_term (by omega) | exact sh_sheet (by omega) | exact sh_items (by omega) | exact sh_sums (by omega)) rfl rfl (c_X12_isOffer hw (by rw [ho.1 86 19 (by omega)]; exact l32) (fun _ => aK_i ?_) (fun q => absurd o1' q))
            refine wp_if_eq (pc := 364) (tgt := 393) dX12_wouldSay_364 rfl (fun q => absurd q (by decide)) (fun _ => ?_)
            refine wp_aload_n (pc := 367) dX12_wouldSay_367 (by first | rfl | assumption | (repeat first | assumption | rfl | refine aG_n ?_ rfl rfl)) ?_
            refine wp_getR (pc := 368) dX12_wouldSay_368 fl_12_53 (by first | rfl | assumption | exact sh_house (by omega) | exact sh_wish (by omega) | exact sh_wor (by omega) | exact sh_bar (by omega) | exact sh_term (by omega) | exact sh_sheet (by omega) | exact sh_items (by omega) | exact sh_sums (by omega)) rfl ?_
            refine wp_iload_n (pc := 371) dX12_wouldSay_371 (by first | rfl | assumption | (repeat first | assumption | rfl | refine aG_n ?_ rfl rfl)) ?_
            refine wp_iald (pc := 372) dX12_wouldSay_372 (by first | rfl | assumption | exact sh_house (by omega) | exact sh_wish (by omega) | exact sh_wor (by omega) | exact sh_bar (by omega) | exact sh_term (by omega) | exact sh_sheet (by omega) | exact sh_items (by omega) | exact sh_sums (by omega)) (vp_in_nI (by omega) (by decide)) ?_
            refine wp_iload (pc := 373) dX12_wouldSay_373 (by first | rfl | assumption | (repeat first | assumption | rfl | refine aG_n ?_ rfl rfl)) ?_
            refine wp_icmp_ne (pc := 375) (tgt := 393) dX12_wouldSay_375 rfl (fun _ => ?_) (fun q => absurd q (by rw [cpl, w101]; exact o2))
            refine wp_iconst (pc := 393) (v := 0) dX12_wouldSay_393 (by decide) ?_
            refine wp_ireturn (pc := 394) dX12_wouldSay_394 rfl (by first | rfl | decide | assumption) ?_
            exact kf (fun z => o2 (hG.mp z).2.1) _ ho
        · have o1' : ¬ ofW μ3.1 w (nI pl) := fun z => o1 (eofl.mp ((ofW_q hw hpl).mp z))
          refine wp_iload (pc := 328) dX12_wouldSay_328 (by first | rfl | assumption | (repeat first | assumption | rfl | refine aG_n ?_ rfl rfl)) ?_
          refine wp_i2l (pc := 330) dX12_wouldSay_330 ?_
          refine wp_ldc2 (pc := 331) dX12_wouldSay_331 cl_12_218 ?_
          refine wp_ldc2 (pc := 334) dX12_wouldSay_334 cl_12_216 ?_
          refine wp_cS (pc := 337) dX12_wouldSay_337 lk_12_133 rfl rfl rfl (c_X12_in (fun _ => aK_i ?_) (fun q => absurd (by rw [w_int]; exact c3) q))
          refine wp_if_ne (pc := 340) (tgt := 359) dX12_wouldSay_340 rfl (fun _ => ?_) (fun q => absurd q (by decide))
          refine wp_aload_n (pc := 359) dX12_wouldSay_359 (by first | rfl | assumption | (repeat first | assumption | rfl | refine aG_n ?_ rfl rfl)) ?_
          refine wp_iload_n (pc := 360) dX12_wouldSay_360 (by first | rfl | assumption | (repeat first | assumption | rfl | refine aG_n ?_ rfl rfl)) ?_
          refine wp_cV (pc := 361) dX12_wouldSay_361 lk_12_266 rfl (by decide) rfl (by first | rfl | assumption | exact sh_house (by omega) | exact sh_wish (by omega) | exact sh_wor (by omega) | exact sh_bar (by omega) | exact sh_term (by omega) | exact sh_sheet (by omega) | exact sh_items (by omega) | exact sh_sums (by omega)) rfl rfl (c_X12_isOffer hw (by rw [ho.1 86 19 (by omega)]; exact l32) (fun q => absurd q o1') (fun _ => aK_i ?_))
          refine wp_if_eq (pc := 364) (tgt := 393) dX12_wouldSay_364 rfl (fun _ => ?_) (fun q => absurd q (by decide))
          refine wp_iconst (pc := 393) (v := 0) dX12_wouldSay_393 (by decide) ?_
          refine wp_ireturn (pc := 394) dX12_wouldSay_394 rfl (by first | rfl | decide | assumption) ?_
          exact kf (fun z => o1 (hG.mp z).1) _ ho
      · have hG := GW_W (c := c) hL hpl hY hq hz c3
        by_cases o4 : μ.1 100 pl = 4
        · refine wp_iload (pc := 328) dX12_wouldSay_328 (by first | rfl | assumption | (repeat first | assumption | rfl | refine aG_n ?_ rfl rfl)) ?_
          refine wp_i2l (pc := 330) dX12_wouldSay_330 ?_
          refine wp_ldc2 (pc := 331) dX12_wouldSay_331 cl_12_218 ?_
          refine wp_ldc2 (pc := 334) dX12_wouldSay_334 cl_12_216 ?_
          refine wp_cS (pc := 337) dX12_wouldSay_337 lk_12_133 rfl rfl rfl (c_X12_in (fun q => absurd q (by rw [w_int]; exact c3)) (fun _ => aK_i ?_))
          refine wp_if_ne (pc := 340) (tgt := 359) dX12_wouldSay_340 rfl (fun q => absurd q (by decide)) (fun _ => ?_)
          refine wp_aload_n (pc := 343) dX12_wouldSay_343 (by first | rfl | assumption | (repeat first | assumption | rfl | refine aG_n ?_ rfl rfl)) ?_
          refine wp_getR (pc := 344) dX12_wouldSay_344 fl_12_50 (by first | rfl | assumption | exact sh_house (by omega) | exact sh_wish (by omega) | exact sh_wor (by omega) | exact sh_bar (by omega) | exact sh_term (by omega) | exact sh_sheet (by omega) | exact sh_items (by omega) | exact sh_sums (by omega)) rfl ?_
          refine wp_iload_n (pc := 347) dX12_wouldSay_347 (by first | rfl | assumption | (repeat first | assumption | rfl | refine aG_n ?_ rfl rfl)) ?_
          refine wp_iald (pc := 348) dX12_wouldSay_348 (by first | rfl | assumption | exact sh_house (by omega) | exact sh_wish (by omega) | exact sh_wor (by omega) | exact sh_bar (by omega) | exact sh_term (by omega) | exact sh_sheet (by omega) | exact sh_items (by omega) | exact sh_sums (by omega)) (vp_in_nI (by omega) (by decide)) ?_
          refine wp_iconst (pc := 349) (v := 4) dX12_wouldSay_349 (by decide) ?_
          refine wp_icmp_ne (pc := 350) (tgt := 357) dX12_wouldSay_350 rfl (fun q => absurd (by rw [cpl, w100]; exact o4) q) (fun _ => ?_)
          refine wp_iconst (pc := 353) (v := 1) dX12_wouldSay_353 (by decide) ?_
          refine wp_goto (pc := 354) (tgt := 358) dX12_wouldSay_354 rfl ?_
          refine wp_ireturn (pc := 358) dX12_wouldSay_358 rfl (by first | rfl | decide | assumption) ?_
          exact kt (hG.mpr o4) _ ho
        · refine wp_iload (pc := 328) dX12_wouldSay_328 (by first | rfl | assumption | (repeat first | assumption | rfl | refine aG_n ?_ rfl rfl)) ?_
          refine wp_i2l (pc := 330) dX12_wouldSay_330 ?_
          refine wp_ldc2 (pc := 331) dX12_wouldSay_331 cl_12_218 ?_
          refine wp_ldc2 (pc := 334) dX12_wouldSay_334 cl_12_216 ?_
          refine wp_cS (pc := 337) dX12_wouldSay_337 lk_12_133 rfl rfl rfl (c_X12_in (fun q => absurd q (by rw [w_int]; exact c3)) (fun _ => aK_i ?_))
          refine wp_if_ne (pc := 340) (tgt := 359) dX12_wouldSay_340 rfl (fun q => absurd q (by decide)) (fun _ => ?_)
          refine wp_aload_n (pc := 343) dX12_wouldSay_343 (by first | rfl | assumption | (repeat first | assumption | rfl | refine aG_n ?_ rfl rfl)) ?_
          refine wp_getR (pc := 344) dX12_wouldSay_344 fl_12_50 (by first | rfl | assumption | exact sh_house (by omega) | exact sh_wish (by omega) | exact sh_wor (by omega) | exact sh_bar (by omega) | exact sh_term (by omega) | exact sh_sheet (by omega) | exact sh_items (by omega) | exact sh_sums (by omega)) rfl ?_
          refine wp_iload_n (pc := 347) dX12_wouldSay_347 (by first | rfl | assumption | (repeat first | assumption | rfl | refine aG_n ?_ rfl rfl)) ?_
          refine wp_iald (pc := 348) dX12_wouldSay_348 (by first | rfl | assumption | exact sh_house (by omega) | exact sh_wish (by omega) | exact sh_wor (by omega) | exact sh_bar (by omega) | exact sh_term (by omega) | exact sh_sheet (by omega) | exact sh_items (by omega) | exact sh_sums (by omega)) (vp_in_nI (by omega) (by decide)) ?_
          refine wp_iconst (pc := 349) (v := 4) dX12_wouldSay_349 (by decide) ?_
          refine wp_icmp_ne (pc := 350) (tgt := 357) dX12_wouldSay_350 rfl (fun _ => ?_) (fun q => absurd q (by rw [cpl, w100]; exact o4))
          refine wp_iconst (pc := 357) (v := 0) dX12_wouldSay_357 (by decide) ?_
          refine wp_ireturn (pc := 358) dX12_wouldSay_358 rfl (by first | rfl | decide | assumption) ?_
          exact kf (fun z => o4 (hG.mp z)) _ ho
    refine wp_aload_n (pc := 287) dX12_wouldSay_287 (by first | rfl | assumption | (repeat first | assumption | rfl | refine aG_n ?_ rfl rfl)) ?_
    refine wp_getR (pc := 288) dX12_wouldSay_288 fl_12_59 (by first | rfl | assumption | exact sh_house (by omega) | exact sh_wish (by omega) | exact sh_wor (by omega) | exact sh_bar (by omega) | exact sh_term (by omega) | exact sh_sheet (by omega) | exact sh_items (by omega) | exact sh_sums (by omega)) rfl ?_
    refine wp_iload_n (pc := 291) dX12_wouldSay_291 (by first | rfl | assumption | (repeat first | assumption | rfl | refine aG_n ?_ rfl rfl)) ?_
    refine wp_iconst (pc := 292) (v := 2) dX12_wouldSay_292 (by decide) ?_
    refine wp_idiv (pc := 293) dX12_wouldSay_293 (by decide) ?_
    refine wp_aload_n (pc := 294) dX12_wouldSay_294 (by first | rfl | assumption | (repeat first | assumption | rfl | refine aG_n ?_ rfl rfl)) ?_
    refine wp_getI (pc := 295) dX12_wouldSay_295 fl_12_278 (by first | rfl | assumption | exact sh_house (by omega) | exact sh_wish (by omega) | exact sh_wor (by omega) | exact sh_bar (by omega) | exact sh_term (by omega) | exact sh_sheet (by omega) | exact sh_items (by omega) | exact sh_sums (by omega)) rfl ?_
    refine wp_irem (pc := 298) dX12_wouldSay_298 (by rw [hc.1]; exact nI_ne0 (by omega) (by omega)) ?_
    refine wp_iald (pc := 299) dX12_wouldSay_299 (by first | rfl | assumption | exact sh_house (by omega) | exact sh_wish (by omega) | exact sh_wor (by omega) | exact sh_bar (by omega) | exact sh_term (by omega) | exact sh_sheet (by omega) | exact sh_items (by omega) | exact sh_sums (by omega)) (by rw [ed, hc.1, er]; exact vp_in_nI (by omega) (by decide)) ?_
    refine wp_istore (pc := 300) dX12_wouldSay_300 (by decide) ?_
    refine wp_aload_n (pc := 302) dX12_wouldSay_302 (by first | rfl | assumption | (repeat first | assumption | rfl | refine aG_n ?_ rfl rfl)) ?_
    refine wp_iload_n (pc := 303) dX12_wouldSay_303 (by first | rfl | assumption | (repeat first | assumption | rfl | refine aG_n ?_ rfl rfl)) ?_
    refine wp_iload (pc := 304) dX12_wouldSay_304 (by first | rfl | assumption | (repeat first | assumption | rfl | refine aG_n ?_ rfl rfl)) ?_
    refine wp_ixor (pc := 306) dX12_wouldSay_306 ?_
    refine wp_cV (pc := 307) dX12_wouldSay_307 lk_12_298 rfl (by decide) rfl (by first | rfl | assumption | exact sh_house (by omega) | exact sh_wish (by omega) | exact sh_wor (by omega) | exact sh_bar (by omega) | exact sh_term (by omega) | exact sh_sheet (by omega) | exact sh_items (by omega) | exact sh_sums (by omega)) rfl rfl ?_
    rw [ed, hc.1, er, cr, (hc.2 _ hm2).1]
    refine c_aw (o64 hta htb) (x64 htd hs64) (xor6 htd hs64) hA' (aK_i ?_)
    refine wp_aload_n (pc := 310) dX12_wouldSay_310 (by first | rfl | assumption | (repeat first | assumption | rfl | refine aG_n ?_ rfl rfl)) ?_
    refine wp_iload_n (pc := 311) dX12_wouldSay_311 (by first | rfl | assumption | (repeat first | assumption | rfl | refine aG_n ?_ rfl rfl)) ?_
    refine wp_cV (pc := 312) dX12_wouldSay_312 lk_12_298 rfl (by decide) rfl (by first | rfl | assumption | exact sh_house (by omega) | exact sh_wish (by omega) | exact sh_wor (by omega) | exact sh_bar (by omega) | exact sh_term (by omega) | exact sh_sheet (by omega) | exact sh_items (by omega) | exact sh_sums (by omega)) rfl rfl ?_
    refine c_aw (o64 hta htb) htd rfl hA' (aK_i ?_)
    refine wp_isub (pc := 315) dX12_wouldSay_315 ?_
    refine wp_istore (pc := 316) dX12_wouldSay_316 (by decide) ?_
    refine wp_iload (pc := 318) dX12_wouldSay_318 (by first | rfl | assumption | (repeat first | assumption | rfl | refine aG_n ?_ rfl rfl)) ?_
    refine wp_iload (pc := 320) dX12_wouldSay_320 (by first | rfl | assumption | (repeat first | assumption | rfl | refine aG_n ?_ rfl rfl)) ?_
    refine wp_iload (pc := 322) dX12_wouldSay_322 (by first | rfl | assumption | (repeat first | assumption | rfl | refine aG_n ?_ rfl rfl)) ?_
    refine wp_isub (pc := 324) dX12_wouldSay_324 ?_
    refine wp_imul (pc := 325) dX12_wouldSay_325 ?_
    refine wp_istore (pc := 326) dX12_wouldSay_326 (by decide) ?_
    exact tail _ rfl _ (by first | rfl | assumption | (repeat first | assumption | rfl | refine aG_n ?_ rfl rfl)) (by first | rfl | assumption | (repeat first | assumption | rfl | refine aG_n ?_ rfl rfl)) (by first | rfl | assumption | (repeat first | assumption | rfl | refine aG_n ?_ rfl rfl)) (by rw [← epr]; first | rfl | assumption | (repeat first | assumption | rfl | refine aG_n ?_ rfl rfl))
  refine wp_aload_n (pc := 235) dX12_wouldSay_235 (by first | rfl | assumption | (repeat first | assumption | rfl | refine aG_n ?_ rfl rfl)) ?_
  refine wp_iconst (pc := 236) (v := 0) dX12_wouldSay_236 (by decide) ?_
  refine wp_putI (pc := 237) dX12_wouldSay_237 fl_12_278 (by first | rfl | assumption | exact sh_house (by omega) | exact sh_wish (by omega) | exact sh_wor (by omega) | exact sh_bar (by omega) | exact sh_term (by omega) | exact sh_sheet (by omega) | exact sh_items (by omega) | exact sh_sums (by omega)) rfl rfl rfl ?_
  refine wp_iconst (pc := 240) (v := 0) dX12_wouldSay_240 (by decide) ?_
  refine wp_istore (pc := 241) dX12_wouldSay_241 (by decide) ?_
  exact l_ws243 (μ := μ) htd hta htb l51 l52 hA hk 64 0 (by omega) (up2 μ.1 86 29 0, μ.2) ⟨fun c j hc => up2_p (by omega), rfl⟩ ⟨by dsimp only; exact up2_at, fun j hj => absurd hj (by simp [rkF])⟩ _ (by first | rfl | assumption | (repeat first | assumption | rfl | refine aG_n ?_ rfl rfl)) (by first | rfl | assumption | (repeat first | assumption | rfl | refine aG_n ?_ rfl rfl)) (by first | rfl | assumption | (repeat first | assumption | rfl | refine aG_n ?_ rfl rfl)) (by first | rfl | assumption | (repeat first | assumption | rfl | refine aG_n ?_ rfl rfl)) (by first | rfl | assumption | (repeat first | assumption | rfl | refine aG_n ?_ rfl rfl)) (by first | rfl | assumption | (repeat first | assumption | rfl | refine aG_n ?_ rfl rfl)) (by first | rfl | assumption | (repeat first | assumption | rfl | refine aG_n ?_ rfl rfl))
end WSAY

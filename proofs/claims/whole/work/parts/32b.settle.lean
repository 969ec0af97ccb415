section STATE2
variable {X : aX} {μ : Mm} {Q : Option Value → Mm → Prop} {n t e : Nat} {h : Int32}
theorem l_settle (hL : LT μ.1 n) (k : ∀ μ' : Mm, (∀ c, c ≠ 33 → μ'.1 c = μ.1 c) → μ'.2 = μ.2 → (∀ i, i < n → μ'.1 33 i = eO μ.1 h (μ'.1 33) i) → Q none μ') : ∀ (f i : Nat), i + f = n → ∀ μ' : Mm, (∀ c, c ≠ 33 → μ'.1 c = μ.1 c) → μ'.2 = μ.2 → (∀ j, j < i → μ'.1 33 j = eO μ.1 h (μ'.1 33) j) → ∀ L : aL, aL_get L 0 = some (.ref 31) → aL_get L 1 = some (.int h) → aL_get L 2 = some (.int (nI i)) → WP X mX2_settle 2 L [] μ' Q
  | 0, i, hi, μ', hs, hr, hE, L, g0, g1, g2 => by
    obtain rfl : i = n := by omega
    have h31 : μ'.1 31 2 = nI i := by rw [hs 31 (by decide)]; exact hL.2.1
    have hn := hL.1
    refine wp_iload_n (pc := 2) dX2_settle_2 (by first | rfl | assumption | (repeat first | assumption | rfl | refine aG_n ?_ rfl rfl)) ?_
    refine wp_aload_n (pc := 3) dX2_settle_3 (by first | rfl | assumption | (repeat first | assumption | rfl | refine aG_n ?_ rfl rfl)) ?_
    refine wp_getI (pc := 4) dX2_settle_4 fl_2_28 (by first | rfl | assumption | exact sh_house (by omega) | exact sh_wish (by omega) | exact sh_wor (by omega) | exact sh_bar (by omega) | exact sh_term (by omega) | exact sh_sheet (by omega) | exact sh_items (by omega) | exact sh_sums (by omega)) rfl ?_
    refine wp_icmp_ge (pc := 7) (tgt := 39) dX2_settle_7 rfl (fun _ => ?_) (fun q => absurd (by rw [h31]; exact nI_le (by omega) (by omega)) q)
    refine wp_vreturn (pc := 39) dX2_settle_39 rfl ?_
    exact k _ hs hr hE
  | f + 1, i, hi, μ', hs, hr, hE, L, g0, g1, g2 => by
    have h31 : μ'.1 31 2 = nI n := by rw [hs 31 (by decide)]; exact hL.2.1
    have hn := hL.1
    have hL' : LT μ'.1 n := LT_c hL (fun c hc => hs c (by omega))
    have ci : (nI i).toNatClampNeg = i := nI_clamp (by omega)
    refine wp_iload_n (pc := 2) dX2_settle_2 (by first | rfl | assumption | (repeat first | assumption | rfl | refine aG_n ?_ rfl rfl)) ?_
    refine wp_aload_n (pc := 3) dX2_settle_3 (by first | rfl | assumption | (repeat first | assumption | rfl | refine aG_n ?_ rfl rfl)) ?_
    refine wp_getI (pc := 4) dX2_settle_4 fl_2_28 (by first | rfl | assumption | exact sh_house (by omega) | exact sh_wish (by omega) | exact sh_wor (by omega) | exact sh_bar (by omega) | exact sh_term (by omega) | exact sh_sheet (by omega) | exact sh_items (by omega) | exact sh_sums (by omega)) rfl ?_
    refine wp_icmp_ge (pc := 7) (tgt := 39) dX2_settle_7 rfl (fun q => absurd q (by rw [h31]; exact nI_ge (by omega) (by omega))) (fun _ => ?_)
    refine wp_iload_n (pc := 10) dX2_settle_10 (by first | rfl | assumption | (repeat first | assumption | rfl | refine aG_n ?_ rfl rfl)) ?_
    refine wp_bipush (pc := 11) (v := 16) dX2_settle_11 (by decide) ?_
    refine wp_icmp_ge (pc := 13) (tgt := 39) dX2_settle_13 rfl (fun q => absurd q (nI_ge (b := 16) (by omega) (by omega))) (fun _ => ?_)
    refine wp_aload_n (pc := 16) dX2_settle_16 (by first | rfl | assumption | (repeat first | assumption | rfl | refine aG_n ?_ rfl rfl)) ?_
    refine wp_getR (pc := 17) dX2_settle_17 fl_2_17 (by first | rfl | assumption | exact sh_house (by omega) | exact sh_wish (by omega) | exact sh_wor (by omega) | exact sh_bar (by omega) | exact sh_term (by omega) | exact sh_sheet (by omega) | exact sh_items (by omega) | exact sh_sums (by omega)) rfl ?_
    refine wp_iload_n (pc := 20) dX2_settle_20 (by first | rfl | assumption | (repeat first | assumption | rfl | refine aG_n ?_ rfl rfl)) ?_
    refine wp_aload_n (pc := 21) dX2_settle_21 (by first | rfl | assumption | (repeat first | assumption | rfl | refine aG_n ?_ rfl rfl)) ?_
    refine wp_aload_n (pc := 22) dX2_settle_22 (by first | rfl | assumption | (repeat first | assumption | rfl | refine aG_n ?_ rfl rfl)) ?_
    refine wp_getR (pc := 23) dX2_settle_23 fl_2_13 (by first | rfl | assumption | exact sh_house (by omega) | exact sh_wish (by omega) | exact sh_wor (by omega) | exact sh_bar (by omega) | exact sh_term (by omega) | exact sh_sheet (by omega) | exact sh_items (by omega) | exact sh_sums (by omega)) rfl ?_
    refine wp_iload_n (pc := 26) dX2_settle_26 (by first | rfl | assumption | (repeat first | assumption | rfl | refine aG_n ?_ rfl rfl)) ?_
    refine wp_aald (pc := 27) dX2_settle_27 (by first | rfl | assumption | exact sh_house (by omega) | exact sh_wish (by omega) | exact sh_wor (by omega) | exact sh_bar (by omega) | exact sh_term (by omega) | exact sh_sheet (by omega) | exact sh_items (by omega) | exact sh_sums (by omega)) (vp_in_nI (by omega) (by decide)) (by decide) (el_term (by omega)) ?_
    refine wp_iload_n (pc := 28) dX2_settle_28 (by first | rfl | assumption | (repeat first | assumption | rfl | refine aG_n ?_ rfl rfl)) ?_
    refine wp_cV (pc := 29) dX2_settle_29 lk_2_54 rfl (by decide) rfl (by first | rfl | assumption | exact sh_house (by omega) | exact sh_wish (by omega) | exact sh_wor (by omega) | exact sh_bar (by omega) | exact sh_term (by omega) | exact sh_sheet (by omega) | exact sh_items (by omega) | exact sh_sums (by omega)) rfl rfl (c_X2_endOf hL' (show i < n by omega) (aK_i ?_))
    refine wp_iast (pc := 32) dX2_settle_32 (by first | rfl | assumption | exact sh_house (by omega) | exact sh_wish (by omega) | exact sh_wor (by omega) | exact sh_bar (by omega) | exact sh_term (by omega) | exact sh_sheet (by omega) | exact sh_items (by omega) | exact sh_sums (by omega)) (vp_in_nI (by omega) (by decide)) ?_
    refine wp_iinc (pc := 33) dX2_settle_33 (by decide) (by first | rfl | assumption | (repeat first | assumption | rfl | refine aG_n ?_ rfl rfl)) rfl ?_
    refine wp_goto (pc := 36) (tgt := 2) dX2_settle_36 rfl ?_
    skip
    rw [ci]
    refine l_settle hL k f (i + 1) (by omega) _ (fun c hc => ?_) (by exact hr) (fun j hj => ?_) _ (by first | rfl | assumption | (repeat first | assumption | rfl | refine aG_n ?_ rfl rfl)) (by first | rfl | assumption | (repeat first | assumption | rfl | refine aG_n ?_ rfl rfl)) (by rw [← nI_i1]; first | rfl | assumption | (repeat first | assumption | rfl | refine aG_n ?_ rfl rfl))
    · dsimp only; rw [up2_ne hc]; exact hs c hc
    · dsimp only
      have hm : ∀ c, 111 ≤ c → c ≤ 119 → μ'.1 c = μ.1 c := fun c h1 h2 => hs c (by omega)
      by_cases ej : j = i
      · subst ej
        rw [up2_at, eO_m hm]
        exact (eO_c hL (by omega) (fun q hq => up2_p (by omega))).symm
      · rw [up2_p (by omega), hE j (by omega)]
        exact (eO_c hL (by omega) (fun q hq => up2_p (by omega))).symm
theorem c_X2_settle (hL : LT μ.1 n) (k : ∀ μ' : Mm, (∀ c, c ≠ 33 → μ'.1 c = μ.1 c) → μ'.2 = μ.2 → (∀ i, i < n → μ'.1 33 i = eO μ.1 h (μ'.1 33) i) → Q none μ') : WP X mX2_settle 0 (lv_args 0 [.ref 31, .int h]) [] μ Q := by
  refine wp_iconst (pc := 0) (v := 0) dX2_settle_0 (by decide) ?_
  refine wp_istore_n (pc := 1) dX2_settle_1 (by decide) ?_
  exact l_settle hL k n 0 (by omega) _ (fun c hc => rfl) rfl (fun j hj => absurd hj (by omega)) _ (by first | rfl | assumption | (repeat first | assumption | rfl | refine aG_n ?_ rfl rfl)) (by first | rfl | assumption | (repeat first | assumption | rfl | refine aG_n ?_ rfl rfl)) (by first | rfl | assumption | (repeat first | assumption | rfl | refine aG_n ?_ rfl rfl))
end STATE2

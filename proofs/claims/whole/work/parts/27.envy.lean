def evP (M : MM) (i j : Nat) : Prop := M (58 + 4 * i) (th M j) = 0 ∧ M (57 + 4 * i) (th M i) < M (57 + 4 * i) (th M j)
section ENVY
variable {X : aX} {μ : Mm} {Q : Option Value → Mm → Prop}
theorem c_X1_wouldRather {i j : Nat} (hO : I_own μ.1) (hi : i < 4) (hj : j < 4) (kt : evP μ.1 i j → Q (some (.int 1)) μ) (kf : ¬ evP μ.1 i j → Q (some (.int 0)) μ) : WP X mX1_wouldRather 0 (lv_args 0 [.ref (55 + 4 * i), .int (μ.1 (55 + 4 * j) 0)]) [] μ Q := by
  have ei : (μ.1 (55 + 4 * i) 0).toNatClampNeg = th μ.1 i := by rw [hO.2 i hi, nI_clamp (Nat.lt_trans (th_lt _ _) (by decide))]
  have ej : (μ.1 (55 + 4 * j) 0).toNatClampNeg = th μ.1 j := by rw [hO.2 j hj, nI_clamp (Nat.lt_trans (th_lt _ _) (by decide))]
  have bi : vp_in (μ.1 (55 + 4 * i) 0) 64 := by rw [hO.2 i hi]; exact vp_in_nI (th_lt _ _) (by decide)
  have bj : vp_in (μ.1 (55 + 4 * j) 0) 64 := by rw [hO.2 j hj]; exact vp_in_nI (th_lt _ _) (by decide)
  unfold evP at kt kf
  by_cases c1 : μ.1 (58 + 4 * i) (th μ.1 j) = 0
  · by_cases c2 : μ.1 (57 + 4 * i) (th μ.1 i) < μ.1 (57 + 4 * i) (th μ.1 j)
    · refine wp_aload_n (pc := 0) dX1_wouldRather_0 (by first | rfl | assumption | (repeat first | assumption | rfl | refine aG_n ?_ rfl rfl)) ?_
      refine wp_getR (pc := 1) dX1_wouldRather_1 fl_1_22 (by first | rfl | assumption | exact sh_house (by omega) | exact sh_wish (by omega) | exact sh_wor (by omega) | exact sh_bar (by omega) | exact sh_term (by omega) | exact sh_sheet (by omega) | exact sh_items (by omega) | exact sh_sums (by omega)) rfl ?_
      refine wp_getR (pc := 4) dX1_wouldRather_4 fl_1_35 (by first | rfl | assumption | exact sh_house (by omega) | exact sh_wish (by omega) | exact sh_wor (by omega) | exact sh_bar (by omega) | exact sh_term (by omega) | exact sh_sheet (by omega) | exact sh_items (by omega) | exact sh_sums (by omega)) rfl ?_
      refine wp_iload_n (pc := 7) dX1_wouldRather_7 (by first | rfl | assumption | (repeat first | assumption | rfl | refine aG_n ?_ rfl rfl)) ?_
      refine wp_zald (pc := 8) dX1_wouldRather_8 (by first | rfl | assumption | exact sh_house (by omega) | exact sh_wish (by omega) | exact sh_wor (by omega) | exact sh_bar (by omega) | exact sh_term (by omega) | exact sh_sheet (by omega) | exact sh_items (by omega) | exact sh_sums (by omega)) (by assumption) ?_
      refine wp_if_ne (pc := 9) (tgt := 40) dX1_wouldRather_9 rfl (fun q => absurd (by rw [ej]; exact c1) q) (fun _ => ?_)
      refine wp_aload_n (pc := 12) dX1_wouldRather_12 (by first | rfl | assumption | (repeat first | assumption | rfl | refine aG_n ?_ rfl rfl)) ?_
      refine wp_getR (pc := 13) dX1_wouldRather_13 fl_1_22 (by first | rfl | assumption | exact sh_house (by omega) | exact sh_wish (by omega) | exact sh_wor (by omega) | exact sh_bar (by omega) | exact sh_term (by omega) | exact sh_sheet (by omega) | exact sh_items (by omega) | exact sh_sums (by omega)) rfl ?_
      refine wp_getR (pc := 16) dX1_wouldRather_16 fl_1_39 (by first | rfl | assumption | exact sh_house (by omega) | exact sh_wish (by omega) | exact sh_wor (by omega) | exact sh_bar (by omega) | exact sh_term (by omega) | exact sh_sheet (by omega) | exact sh_items (by omega) | exact sh_sums (by omega)) rfl ?_
      refine wp_aload_n (pc := 19) dX1_wouldRather_19 (by first | rfl | assumption | (repeat first | assumption | rfl | refine aG_n ?_ rfl rfl)) ?_
      refine wp_getI (pc := 20) dX1_wouldRather_20 fl_1_43 (by first | rfl | assumption | exact sh_house (by omega) | exact sh_wish (by omega) | exact sh_wor (by omega) | exact sh_bar (by omega) | exact sh_term (by omega) | exact sh_sheet (by omega) | exact sh_items (by omega) | exact sh_sums (by omega)) rfl ?_
      refine wp_iald (pc := 23) dX1_wouldRather_23 (by first | rfl | assumption | exact sh_house (by omega) | exact sh_wish (by omega) | exact sh_wor (by omega) | exact sh_bar (by omega) | exact sh_term (by omega) | exact sh_sheet (by omega) | exact sh_items (by omega) | exact sh_sums (by omega)) (by assumption) ?_
      refine wp_aload_n (pc := 24) dX1_wouldRather_24 (by first | rfl | assumption | (repeat first | assumption | rfl | refine aG_n ?_ rfl rfl)) ?_
      refine wp_getR (pc := 25) dX1_wouldRather_25 fl_1_22 (by first | rfl | assumption | exact sh_house (by omega) | exact sh_wish (by omega) | exact sh_wor (by omega) | exact sh_bar (by omega) | exact sh_term (by omega) | exact sh_sheet (by omega) | exact sh_items (by omega) | exact sh_sums (by omega)) rfl ?_
      refine wp_getR (pc := 28) dX1_wouldRather_28 fl_1_39 (by first | rfl | assumption | exact sh_house (by omega) | exact sh_wish (by omega) | exact sh_wor (by omega) | exact sh_bar (by omega) | exact sh_term (by omega) | exact sh_sheet (by omega) | exact sh_items (by omega) | exact sh_sums (by omega)) rfl ?_
      refine wp_iload_n (pc := 31) dX1_wouldRather_31 (by first | rfl | assumption | (repeat first | assumption | rfl | refine aG_n ?_ rfl rfl)) ?_
      refine wp_iald (pc := 32) dX1_wouldRather_32 (by first | rfl | assumption | exact sh_house (by omega) | exact sh_wish (by omega) | exact sh_wor (by omega) | exact sh_bar (by omega) | exact sh_term (by omega) | exact sh_sheet (by omega) | exact sh_items (by omega) | exact sh_sums (by omega)) (by assumption) ?_
      refine wp_icmp_ge (pc := 33) (tgt := 40) dX1_wouldRather_33 rfl (fun q => absurd q (by rw [ei, ej]; exact fun z => i_nle c2 z)) (fun _ => ?_)
      refine wp_iconst (pc := 36) (v := 1) dX1_wouldRather_36 (by decide) ?_
      refine wp_goto (pc := 37) (tgt := 41) dX1_wouldRather_37 rfl ?_
      refine wp_ireturn (pc := 41) dX1_wouldRather_41 rfl (by first | rfl | decide | assumption) ?_
      exact kt ⟨c1, c2⟩
    · refine wp_aload_n (pc := 0) dX1_wouldRather_0 (by first | rfl | assumption | (repeat first | assumption | rfl | refine aG_n ?_ rfl rfl)) ?_
      refine wp_getR (pc := 1) dX1_wouldRather_1 fl_1_22 (by first | rfl | assumption | exact sh_house (by omega) | exact sh_wish (by omega) | exact sh_wor (by omega) | exact sh_bar (by omega) | exact sh_term (by omega) | exact sh_sheet (by omega) | exact sh_items (by omega) | exact sh_sums (by omega)) rfl ?_
      refine wp_getR (pc := 4) dX1_wouldRather_4 fl_1_35 (by first | rfl | assumption | exact sh_house (by omega) | exact sh_wish (by omega) | exact sh_wor (by omega) | exact sh_bar (by omega) | exact sh_term (by omega) | exact sh_sheet (by omega) | exact sh_items (by omega) | exact sh_sums (by omega)) rfl ?_
      refine wp_iload_n (pc := 7) dX1_wouldRather_7 (by first | rfl | assumption | (repeat first | assumption | rfl | refine aG_n ?_ rfl rfl)) ?_
      refine wp_zald (pc := 8) dX1_wouldRather_8 (by first | rfl | assumption | exact sh_house (by omega) | exact sh_wish (by omega) | exact sh_wor (by omega) | exact sh_bar (by omega) | exact sh_term (by omega) | exact sh_sheet (by omega) | exact sh_items (by omega) | exact sh_sums (by omega)) (by assumption) ?_
      refine wp_if_ne (pc := 9) (tgt := 40) dX1_wouldRather_9 rfl (fun q => absurd (by rw [ej]; exact c1) q) (fun _ => ?_)
      refine wp_aload_n (pc := 12) dX1_wouldRather_12 (by first | rfl | assumption | (repeat first | assumption | rfl | refine aG_n ?_ rfl rfl)) ?_
      refine wp_getR (pc := 13) dX1_wouldRather_13 fl_1_22 (by first | rfl | assumption | exact sh_house (by omega) | exact sh_wish (by omega) | exact sh_wor (by omega) | exact sh_bar (by omega) | exact sh_term (by omega) | exact sh_sheet (by omega) | exact sh_items (by omega) | exact sh_sums (by omega)) rfl ?_
      refine wp_getR (pc := 16) dX1_wouldRather_16 fl_1_39 (by first | rfl | assumption | exact sh_house (by omega) | exact sh_wish (by omega) | exact sh_wor (by omega) | exact sh_bar (by omega) | exact sh_term (by omega) | exact sh_sheet (by omega) | exact sh_items (by omega) | exact sh_sums (by omega)) rfl ?_
      refine wp_aload_n (pc := 19) dX1_wouldRather_19 (by first | rfl | assumption | (repeat first | assumption | rfl | refine aG_n ?_ rfl rfl)) ?_
      refine wp_getI (pc := 20) dX1_wouldRather_20 fl_1_43 (by first | rfl | assumption | exact sh_house (by omega) | exact sh_wish (by omega) | exact sh_wor (by omega) | exact sh_bar (by omega) | exact sh_term (by omega) | exact sh_sheet (by omega) | exact sh_items (by omega) | exact sh_sums (by omega)) rfl ?_
      refine wp_iald (pc := 23) dX1_wouldRather_23 (by first | rfl | assumption | exact sh_house (by omega) | exact sh_wish (by omega) | exact sh_wor (by omega) | exact sh_bar (by omega) | exact sh_term (by omega) | exact sh_sheet (by omega) | exact sh_items (by omega) | exact sh_sums (by omega)) (by assumption) ?_
      refine wp_aload_n (pc := 24) dX1_wouldRather_24 (by first | rfl | assumption | (repeat first | assumption | rfl | refine aG_n ?_ rfl rfl)) ?_
      refine wp_getR (pc := 25) dX1_wouldRather_25 fl_1_22 (by first | rfl | assumption | exact sh_house (by omega) | exact sh_wish (by omega) | exact sh_wor (by omega) | exact sh_bar (by omega) | exact sh_term (by omega) | exact sh_sheet (by omega) | exact sh_items (by omega) | exact sh_sums (by omega)) rfl ?_
      refine wp_getR (pc := 28) dX1_wouldRather_28 fl_1_39 (by first | rfl | assumption | exact sh_house (by omega) | exact sh_wish (by omega) | exact sh_wor (by omega) | exact sh_bar (by omega) | exact sh_term (by omega) | exact sh_sheet (by omega) | exact sh_items (by omega) | exact sh_sums (by omega)) rfl ?_
      refine wp_iload_n (pc := 31) dX1_wouldRather_31 (by first | rfl | assumption | (repeat first | assumption | rfl | refine aG_n ?_ rfl rfl)) ?_
      refine wp_iald (pc := 32) dX1_wouldRather_32 (by first | rfl | assumption | exact sh_house (by omega) | exact sh_wish (by omega) | exact sh_wor (by omega) | exact sh_bar (by omega) | exact sh_term (by omega) | exact sh_sheet (by omega) | exact sh_items (by omega) | exact sh_sums (by omega)) (by assumption) ?_
      refine wp_icmp_ge (pc := 33) (tgt := 40) dX1_wouldRather_33 rfl (fun _ => ?_) (fun q => absurd (by rw [ei, ej]; exact i_nlt c2) q)
      refine wp_iconst (pc := 40) (v := 0) dX1_wouldRather_40 (by decide) ?_
      refine wp_ireturn (pc := 41) dX1_wouldRather_41 rfl (by first | rfl | decide | assumption) ?_
      exact kf (fun z => c2 z.2)
  · refine wp_aload_n (pc := 0) dX1_wouldRather_0 (by first | rfl | assumption | (repeat first | assumption | rfl | refine aG_n ?_ rfl rfl)) ?_
    refine wp_getR (pc := 1) dX1_wouldRather_1 fl_1_22 (by first | rfl | assumption | exact sh_house (by omega) | exact sh_wish (by omega) | exact sh_wor (by omega) | exact sh_bar (by omega) | exact sh_term (by omega) | exact sh_sheet (by omega) | exact sh_items (by omega) | exact sh_sums (by omega)) rfl ?_
    refine wp_getR (pc := 4) dX1_wouldRather_4 fl_1_35 (by first | rfl | assumption | exact sh_house (by omega) | exact sh_wish (by omega) | exact sh_wor (by omega) | exact sh_bar (by omega) | exact sh_term (by omega) | exact sh_sheet (by omega) | exact sh_items (by omega) | exact sh_sums (by omega)) rfl ?_
    refine wp_iload_n (pc := 7) dX1_wouldRather_7 (by first | rfl | assumption | (repeat first | assumption | rfl | refine aG_n ?_ rfl rfl)) ?_
    refine wp_zald (pc := 8) dX1_wouldRather_8 (by first | rfl | assumption | exact sh_house (by omega) | exact sh_wish (by omega) | exact sh_wor (by omega) | exact sh_bar (by omega) | exact sh_term (by omega) | exact sh_sheet (by omega) | exact sh_items (by omega) | exact sh_sums (by omega)) (by assumption) ?_
    refine wp_if_ne (pc := 9) (tgt := 40) dX1_wouldRather_9 rfl (fun _ => ?_) (fun q => absurd q (by rw [ej]; exact c1))
    refine wp_iconst (pc := 40) (v := 0) dX1_wouldRather_40 (by decide) ?_
    refine wp_ireturn (pc := 41) dX1_wouldRather_41 rfl (by first | rfl | decide | assumption) ?_
    exact kf (fun z => c1 z.1)
theorem l_X11_envy (hO : I_own μ.1) (k1 : ∀ i j, i < 4 → j < 4 → evP μ.1 i j → (∀ i' j', i' < 4 → j' < 4 → 4 * i' + j' < 4 * i + j → ¬ evP μ.1 i' j') → Q (some (.int (nI (10 * i + j)))) μ) (k2 : (∀ i j, i < 4 → j < 4 → ¬ evP μ.1 i j) → Q (some (.int (-4))) μ) : ∀ (f i j : Nat), i < 4 → j ≤ 4 → f + 5 * i + j = 19 → (∀ i' j', i' < 4 → j' < 4 → 4 * i' + j' < 4 * i + j → ¬ evP μ.1 i' j') → ∀ L : aL, aL_get L 0 = some (.ref 0) → aL_get L 1 = some (.int (nI i)) → aL_get L 2 = some (.int (nI j)) → WP X mX11_envy 9 L [] μ Q
  | 0, i, j, hi, hj, hf, H, L, g0, g1, g2 => by
    obtain rfl : i = 3 := by omega
    obtain rfl : j = 4 := by omega
    refine wp_iload_n (pc := 9) dX11_envy_9 (by first | rfl | assumption | (repeat first | assumption | rfl | refine aG_n ?_ rfl rfl)) ?_
    refine wp_iconst (pc := 10) (v := 4) dX11_envy_10 (by decide) ?_
    refine wp_icmp_ge (pc := 11) (tgt := 48) dX11_envy_11 rfl (fun _ => ?_) (fun q => absurd (nI_le (a := 4) (b := 4) (by omega) (by omega)) q)
    refine wp_iinc (pc := 48) dX11_envy_48 (by decide) (by first | rfl | assumption | (repeat first | assumption | rfl | refine aG_n ?_ rfl rfl)) rfl ?_
    refine wp_goto (pc := 51) (tgt := 2) dX11_envy_51 rfl ?_
    refine wp_iload_n (pc := 2) dX11_envy_2 (by first | rfl | assumption | (repeat first | assumption | rfl | refine aG_n ?_ rfl rfl)) ?_
    refine wp_iconst (pc := 3) (v := 4) dX11_envy_3 (by decide) ?_
    refine wp_icmp_ge (pc := 4) (tgt := 54) dX11_envy_4 rfl (fun _ => ?_) (fun q => absurd (by decide) q)
    refine wp_bipush (pc := 54) (v := -4) dX11_envy_54 (by decide) ?_
    refine wp_ireturn (pc := 56) dX11_envy_56 rfl (by first | rfl | decide | assumption) ?_
    exact k2 (fun i j hi hj => H i j hi hj (by omega))
  | f + 1, i, j, hi, hj, hf, H, L, g0, g1, g2 => by
    by_cases c : j = 4
    · subst c
      refine wp_iload_n (pc := 9) dX11_envy_9 (by first | rfl | assumption | (repeat first | assumption | rfl | refine aG_n ?_ rfl rfl)) ?_
      refine wp_iconst (pc := 10) (v := 4) dX11_envy_10 (by decide) ?_
      refine wp_icmp_ge (pc := 11) (tgt := 48) dX11_envy_11 rfl (fun _ => ?_) (fun q => absurd (nI_le (a := 4) (b := 4) (by omega) (by omega)) q)
      refine wp_iinc (pc := 48) dX11_envy_48 (by decide) (by first | rfl | assumption | (repeat first | assumption | rfl | refine aG_n ?_ rfl rfl)) rfl ?_
      refine wp_goto (pc := 51) (tgt := 2) dX11_envy_51 rfl ?_
      refine wp_iload_n (pc := 2) dX11_envy_2 (by first | rfl | assumption | (repeat first | assumption | rfl | refine aG_n ?_ rfl rfl)) ?_
      refine wp_iconst (pc := 3) (v := 4) dX11_envy_3 (by decide) ?_
      refine wp_icmp_ge (pc := 4) (tgt := 54) dX11_envy_4 rfl (fun q => absurd q (by rw [nI_i1]; exact nI_ge (a := i + 1) (b := 4) (by omega) (by omega))) (fun _ => ?_)
      refine wp_iconst (pc := 7) (v := 0) dX11_envy_7 (by decide) ?_
      refine wp_istore_n (pc := 8) dX11_envy_8 (by decide) ?_
      exact l_X11_envy hO k1 k2 f (i + 1) 0 (by omega) (by omega) (by omega) (fun i' j' a b h => H i' j' a b (by omega)) _ (by first | rfl | assumption | (repeat first | assumption | rfl | refine aG_n ?_ rfl rfl)) (by rw [← nI_i1]; first | rfl | assumption | (repeat first | assumption | rfl | refine aG_n ?_ rfl rfl)) (by first | rfl | assumption | (repeat first | assumption | rfl | refine aG_n ?_ rfl rfl))
    · have hj4 : j < 4 := by omega
      by_cases c2 : evP μ.1 i j
      · have er : (10 : Int32) * nI i + nI j = nI (10 * i + j) := by rw [show (10 : Int32) = nI 10 from rfl, pk_mul, nI_add]
        refine wp_iload_n (pc := 9) dX11_envy_9 (by first | rfl | assumption | (repeat first | assumption | rfl | refine aG_n ?_ rfl rfl)) ?_
        refine wp_iconst (pc := 10) (v := 4) dX11_envy_10 (by decide) ?_
        refine wp_icmp_ge (pc := 11) (tgt := 48) dX11_envy_11 rfl (fun q => absurd q (nI_ge (a := j) (b := 4) (by omega) (by omega))) (fun _ => ?_)
        refine wp_aload_n (pc := 14) dX11_envy_14 (by first | rfl | assumption | (repeat first | assumption | rfl | refine aG_n ?_ rfl rfl)) ?_
        refine wp_getR (pc := 15) dX11_envy_15 fl_11_11 (by first | rfl | assumption | exact sh_house (by omega) | exact sh_wish (by omega) | exact sh_wor (by omega) | exact sh_bar (by omega) | exact sh_term (by omega) | exact sh_sheet (by omega) | exact sh_items (by omega) | exact sh_sums (by omega)) rfl ?_
        refine wp_iload_n (pc := 18) dX11_envy_18 (by first | rfl | assumption | (repeat first | assumption | rfl | refine aG_n ?_ rfl rfl)) ?_
        refine wp_aald (pc := 19) dX11_envy_19 (by first | rfl | assumption | exact sh_house (by omega) | exact sh_wish (by omega) | exact sh_wor (by omega) | exact sh_bar (by omega) | exact sh_term (by omega) | exact sh_sheet (by omega) | exact sh_items (by omega) | exact sh_sums (by omega)) (vp_in_nI (by omega) (by decide)) (by decide) (el_house hi) ?_
        refine wp_aload_n (pc := 20) dX11_envy_20 (by first | rfl | assumption | (repeat first | assumption | rfl | refine aG_n ?_ rfl rfl)) ?_
        refine wp_getR (pc := 21) dX11_envy_21 fl_11_11 (by first | rfl | assumption | exact sh_house (by omega) | exact sh_wish (by omega) | exact sh_wor (by omega) | exact sh_bar (by omega) | exact sh_term (by omega) | exact sh_sheet (by omega) | exact sh_items (by omega) | exact sh_sums (by omega)) rfl ?_
        refine wp_iload_n (pc := 24) dX11_envy_24 (by first | rfl | assumption | (repeat first | assumption | rfl | refine aG_n ?_ rfl rfl)) ?_
        refine wp_aald (pc := 25) dX11_envy_25 (by first | rfl | assumption | exact sh_house (by omega) | exact sh_wish (by omega) | exact sh_wor (by omega) | exact sh_bar (by omega) | exact sh_term (by omega) | exact sh_sheet (by omega) | exact sh_items (by omega) | exact sh_sums (by omega)) (vp_in_nI (by omega) (by decide)) (by decide) (el_house hj4) ?_
        refine wp_getI (pc := 26) dX11_envy_26 fl_11_71 (by first | rfl | assumption | exact sh_house (by omega) | exact sh_wish (by omega) | exact sh_wor (by omega) | exact sh_bar (by omega) | exact sh_term (by omega) | exact sh_sheet (by omega) | exact sh_items (by omega) | exact sh_sums (by omega)) rfl ?_
        refine wp_cV (pc := 29) dX11_envy_29 lk_11_288 rfl (by decide) rfl (by first | rfl | assumption | exact sh_house (by omega) | exact sh_wish (by omega) | exact sh_wor (by omega) | exact sh_bar (by omega) | exact sh_term (by omega) | exact sh_sheet (by omega) | exact sh_items (by omega) | exact sh_sums (by omega)) rfl rfl (c_X1_wouldRather hO hi hj4 (fun _ => aK_i ?_) (fun q => absurd c2 q))
        refine wp_if_eq (pc := 32) (tgt := 42) dX11_envy_32 rfl (fun q => absurd q (by decide)) (fun _ => ?_)
        refine wp_bipush (pc := 35) (v := 10) dX11_envy_35 (by decide) ?_
        refine wp_iload_n (pc := 37) dX11_envy_37 (by first | rfl | assumption | (repeat first | assumption | rfl | refine aG_n ?_ rfl rfl)) ?_
        refine wp_imul (pc := 38) dX11_envy_38 ?_
        refine wp_iload_n (pc := 39) dX11_envy_39 (by first | rfl | assumption | (repeat first | assumption | rfl | refine aG_n ?_ rfl rfl)) ?_
        refine wp_iadd (pc := 40) dX11_envy_40 ?_
        refine wp_ireturn (pc := 41) dX11_envy_41 rfl (by first | rfl | decide | assumption) ?_
        rw [er]; exact k1 i j hi hj4 c2 H
      · refine wp_iload_n (pc := 9) dX11_envy_9 (by first | rfl | assumption | (repeat first | assumption | rfl | refine aG_n ?_ rfl rfl)) ?_
        refine wp_iconst (pc := 10) (v := 4) dX11_envy_10 (by decide) ?_
        refine wp_icmp_ge (pc := 11) (tgt := 48) dX11_envy_11 rfl (fun q => absurd q (nI_ge (a := j) (b := 4) (by omega) (by omega))) (fun _ => ?_)
        refine wp_aload_n (pc := 14) dX11_envy_14 (by first | rfl | assumption | (repeat first | assumption | rfl | refine aG_n ?_ rfl rfl)) ?_
        refine wp_getR (pc := 15) dX11_envy_15 fl_11_11 (by first | rfl | assumption | exact sh_house (by omega) | exact sh_wish (by omega) | exact sh_wor (by omega) | exact sh_bar (by omega) | exact sh_term (by omega) | exact sh_sheet (by omega) | exact sh_items (by omega) | exact sh_sums (by omega)) rfl ?_
        refine wp_iload_n (pc := 18) dX11_envy_18 (by first | rfl | assumption | (repeat first | assumption | rfl | refine aG_n ?_ rfl rfl)) ?_
        refine wp_aald (pc := 19) dX11_envy_19 (by first | rfl | assumption | exact sh_house (by omega) | exact sh_wish (by omega) | exact sh_wor (by omega) | exact sh_bar (by omega) | exact sh_term (by omega) | exact sh_sheet (by omega) | exact sh_items (by omega) | exact sh_sums (by omega)) (vp_in_nI (by omega) (by decide)) (by decide) (el_house hi) ?_
        refine wp_aload_n (pc := 20) dX11_envy_20 (by first | rfl | assumption | (repeat first | assumption | rfl | refine aG_n ?_ rfl rfl)) ?_
        refine wp_getR (pc := 21) dX11_envy_21 fl_11_11 (by first | rfl | assumption | exact sh_house (by omega) | exact sh_wish (by omega) | exact sh_wor (by omega) | exact sh_bar (by omega) | exact sh_term (by omega) | exact sh_sheet (by omega) | exact sh_items (by omega) | exact sh_sums (by omega)) rfl ?_
        refine wp_iload_n (pc := 24) dX11_envy_24 (by first | rfl | assumption | (repeat first | assumption | rfl | refine aG_n ?_ rfl rfl)) ?_
        refine wp_aald (pc := 25) dX11_envy_25 (by first | rfl | assumption | exact sh_house (by omega) | exact sh_wish (by omega) | exact sh_wor (by omega) | exact sh_bar (by omega) | exact sh_term (by omega) | exact sh_sheet (by omega) | exact sh_items (by omega) | exact sh_sums (by omega)) (vp_in_nI (by omega) (by decide)) (by decide) (el_house hj4) ?_
        refine wp_getI (pc := 26) dX11_envy_26 fl_11_71 (by first | rfl | assumption | exact sh_house (by omega) | exact sh_wish (by omega) | exact sh_wor (by omega) | exact sh_bar (by omega) | exact sh_term (by omega) | exact sh_sheet (by omega) | exact sh_items (by omega) | exact sh_sums (by omega)) rfl ?_
        refine wp_cV (pc := 29) dX11_envy_29 lk_11_288 rfl (by decide) rfl (by first | rfl | assumption | exact sh_house (by omega) | exact sh_wish (by omega) | exact sh_wor (by omega) | exact sh_bar (by omega) | exact sh_term (by omega) | exact sh_sheet (by omega) | exact sh_items (by omega) | exact sh_sums (by omega)) rfl rfl (c_X1_wouldRather hO hi hj4 (fun q => absurd q c2) (fun _ => aK_i ?_))
        refine wp_if_eq (pc := 32) (tgt := 42) dX11_envy_32 rfl (fun _ => ?_) (fun q => absurd q (by decide))
        refine wp_iinc (pc := 42) dX11_envy_42 (by decide) (by first | rfl | assumption | (repeat first | assumption | rfl | refine aG_n ?_ rfl rfl)) rfl ?_
        refine wp_goto (pc := 45) (tgt := 9) dX11_envy_45 rfl ?_
        exact l_X11_envy hO k1 k2 f i (j + 1) (by omega) (by omega) (by omega) (fun i' j' a b h => (by by_cases z : 4 * i' + j' = 4 * i + j; (have z1 : i' = i := (by omega)); (have z2 : j' = j := (by omega)); subst z1; subst z2; exact c2; exact H i' j' a b (by omega))) _ (by first | rfl | assumption | (repeat first | assumption | rfl | refine aG_n ?_ rfl rfl)) (by first | rfl | assumption | (repeat first | assumption | rfl | refine aG_n ?_ rfl rfl)) (by rw [← nI_i1]; first | rfl | assumption | (repeat first | assumption | rfl | refine aG_n ?_ rfl rfl))
theorem l_X12_envy (hW : I_wish μ.1) (k1 : ∀ i j, i < 4 → j < 4 → evP μ.1 i j → (∀ i' j', i' < 4 → j' < 4 → 4 * i' + j' < 4 * i + j → ¬ evP μ.1 i' j') → Q (some (.int (nI (10 * i + j)))) μ) (k2 : (∀ i j, i < 4 → j < 4 → ¬ evP μ.1 i j) → Q (some (.int (-4))) μ) : ∀ (f i j : Nat), i < 4 → j ≤ 4 → f + 5 * i + j = 19 → (∀ i' j', i' < 4 → j' < 4 → 4 * i' + j' < 4 * i + j → ¬ evP μ.1 i' j') → ∀ L : aL, aL_get L 0 = some (.ref 86) → aL_get L 1 = some (.int (nI i)) → aL_get L 2 = some (.int (nI j)) → WP X mX12_envy 9 L [] μ Q
  | 0, i, j, hi, hj, hf, H, L, g0, g1, g2 => by
    obtain rfl : i = 3 := by omega
    obtain rfl : j = 4 := by omega
    refine wp_iload_n (pc := 9) dX12_envy_9 (by first | rfl | assumption | (repeat first | assumption | rfl | refine aG_n ?_ rfl rfl)) ?_
    refine wp_iconst (pc := 10) (v := 4) dX12_envy_10 (by decide) ?_
    refine wp_icmp_ge (pc := 11) (tgt := 68) dX12_envy_11 rfl (fun _ => ?_) (fun q => absurd (nI_le (a := 4) (b := 4) (by omega) (by omega)) q)
    refine wp_iinc (pc := 68) dX12_envy_68 (by decide) (by first | rfl | assumption | (repeat first | assumption | rfl | refine aG_n ?_ rfl rfl)) rfl ?_
    refine wp_goto (pc := 71) (tgt := 2) dX12_envy_71 rfl ?_
    refine wp_iload_n (pc := 2) dX12_envy_2 (by first | rfl | assumption | (repeat first | assumption | rfl | refine aG_n ?_ rfl rfl)) ?_
    refine wp_iconst (pc := 3) (v := 4) dX12_envy_3 (by decide) ?_
    refine wp_icmp_ge (pc := 4) (tgt := 74) dX12_envy_4 rfl (fun _ => ?_) (fun q => absurd (by decide) q)
    refine wp_bipush (pc := 74) (v := -4) dX12_envy_74 (by decide) ?_
    refine wp_ireturn (pc := 76) dX12_envy_76 rfl (by first | rfl | decide | assumption) ?_
    exact k2 (fun i j hi hj => H i j hi hj (by omega))
  | f + 1, i, j, hi, hj, hf, H, L, g0, g1, g2 => by
    have hti := th_lt μ.1 i
    have htj := th_lt μ.1 j
    by_cases c : j = 4
    · subst c
      refine wp_iload_n (pc := 9) dX12_envy_9 (by first | rfl | assumption | (repeat first | assumption | rfl | refine aG_n ?_ rfl rfl)) ?_
      refine wp_iconst (pc := 10) (v := 4) dX12_envy_10 (by decide) ?_
      refine wp_icmp_ge (pc := 11) (tgt := 68) dX12_envy_11 rfl (fun _ => ?_) (fun q => absurd (nI_le (a := 4) (b := 4) (by omega) (by omega)) q)
      refine wp_iinc (pc := 68) dX12_envy_68 (by decide) (by first | rfl | assumption | (repeat first | assumption | rfl | refine aG_n ?_ rfl rfl)) rfl ?_
      refine wp_goto (pc := 71) (tgt := 2) dX12_envy_71 rfl ?_
      refine wp_iload_n (pc := 2) dX12_envy_2 (by first | rfl | assumption | (repeat first | assumption | rfl | refine aG_n ?_ rfl rfl)) ?_
      refine wp_iconst (pc := 3) (v := 4) dX12_envy_3 (by decide) ?_
      refine wp_icmp_ge (pc := 4) (tgt := 74) dX12_envy_4 rfl (fun q => absurd q (by rw [nI_i1]; exact nI_ge (a := i + 1) (b := 4) (by omega) (by omega))) (fun _ => ?_)
      refine wp_iconst (pc := 7) (v := 0) dX12_envy_7 (by decide) ?_
      refine wp_istore_n (pc := 8) dX12_envy_8 (by decide) ?_
      exact l_X12_envy hW k1 k2 f (i + 1) 0 (by omega) (by omega) (by omega) (fun i' j' a b h => H i' j' a b (by omega)) _ (by first | rfl | assumption | (repeat first | assumption | rfl | refine aG_n ?_ rfl rfl)) (by rw [← nI_i1]; first | rfl | assumption | (repeat first | assumption | rfl | refine aG_n ?_ rfl rfl)) (by first | rfl | assumption | (repeat first | assumption | rfl | refine aG_n ?_ rfl rfl))
    · have hj4 : j < 4 := by omega
      have hstep : ¬ evP μ.1 i j → ∀ i' j', i' < 4 → j' < 4 → 4 * i' + j' < 4 * i + (j + 1) → ¬ evP μ.1 i' j' := by
        intro c2 i' j' a b h
        by_cases z : 4 * i' + j' = 4 * i + j
        · have z1 : i' = i := by omega
          have z2 : j' = j := by omega
          subst z1; subst z2; exact c2
        · exact H i' j' a b (by omega)
      by_cases cij : j = i
      · have c2 : ¬ evP μ.1 i j := by
          subst cij
          exact fun z => i_nle z.2 (by rw [i_le]; exact Int.le_refl _)
        refine wp_iload_n (pc := 9) dX12_envy_9 (by first | rfl | assumption | (repeat first | assumption | rfl | refine aG_n ?_ rfl rfl)) ?_
        refine wp_iconst (pc := 10) (v := 4) dX12_envy_10 (by decide) ?_
        refine wp_icmp_ge (pc := 11) (tgt := 68) dX12_envy_11 rfl (fun q => absurd q (nI_ge (a := j) (b := 4) (by omega) (by omega))) (fun _ => ?_)
        refine wp_iload_n (pc := 14) dX12_envy_14 (by first | rfl | assumption | (repeat first | assumption | rfl | refine aG_n ?_ rfl rfl)) ?_
        refine wp_iload_n (pc := 15) dX12_envy_15 (by first | rfl | assumption | (repeat first | assumption | rfl | refine aG_n ?_ rfl rfl)) ?_
        refine wp_icmp_eq (pc := 16) (tgt := 62) dX12_envy_16 rfl (fun _ => ?_) (fun q => absurd (by rw [cij]) q)
        refine wp_iinc (pc := 62) dX12_envy_62 (by decide) (by first | rfl | assumption | (repeat first | assumption | rfl | refine aG_n ?_ rfl rfl)) rfl ?_
        refine wp_goto (pc := 65) (tgt := 9) dX12_envy_65 rfl ?_
        exact l_X12_envy hW k1 k2 f i (j + 1) (by omega) (by omega) (by omega) (hstep c2) _ (by first | rfl | assumption | (repeat first | assumption | rfl | refine aG_n ?_ rfl rfl)) (by first | rfl | assumption | (repeat first | assumption | rfl | refine aG_n ?_ rfl rfl)) (by rw [← nI_i1]; first | rfl | assumption | (repeat first | assumption | rfl | refine aG_n ?_ rfl rfl))
      · have cne : ¬ nI j = nI i := fun z => cij ((nI_eq (by omega) (by omega)).mp z)
        by_cases c1 : μ.1 (57 + 4 * i) (th μ.1 i) < μ.1 (57 + 4 * i) (th μ.1 j)
        · by_cases c3 : μ.1 (58 + 4 * i) (th μ.1 j) = 0
          · have er : (10 : Int32) * nI i + nI j = nI (10 * i + j) := by rw [show (10 : Int32) = nI 10 from rfl, pk_mul, nI_add]
            refine wp_iload_n (pc := 9) dX12_envy_9 (by first | rfl | assumption | (repeat first | assumption | rfl | refine aG_n ?_ rfl rfl)) ?_
            refine wp_iconst (pc := 10) (v := 4) dX12_envy_10 (by decide) ?_
            refine wp_icmp_ge (pc := 11) (tgt := 68) dX12_envy_11 rfl (fun q => absurd q (nI_ge (a := j) (b := 4) (by omega) (by omega))) (fun _ => ?_)
            refine wp_iload_n (pc := 14) dX12_envy_14 (by first | rfl | assumption | (repeat first | assumption | rfl | refine aG_n ?_ rfl rfl)) ?_
            refine wp_iload_n (pc := 15) dX12_envy_15 (by first | rfl | assumption | (repeat first | assumption | rfl | refine aG_n ?_ rfl rfl)) ?_
            refine wp_icmp_eq (pc := 16) (tgt := 62) dX12_envy_16 rfl (fun q => absurd q cne) (fun _ => ?_)
            refine wp_aload_n (pc := 19) dX12_envy_19 (by first | rfl | assumption | (repeat first | assumption | rfl | refine aG_n ?_ rfl rfl)) ?_
            refine wp_iload_n (pc := 20) dX12_envy_20 (by first | rfl | assumption | (repeat first | assumption | rfl | refine aG_n ?_ rfl rfl)) ?_
            refine wp_aload_n (pc := 21) dX12_envy_21 (by first | rfl | assumption | (repeat first | assumption | rfl | refine aG_n ?_ rfl rfl)) ?_
            refine wp_iload_n (pc := 22) dX12_envy_22 (by first | rfl | assumption | (repeat first | assumption | rfl | refine aG_n ?_ rfl rfl)) ?_
            refine wp_cV (pc := 23) dX12_envy_23 lk_12_208 rfl (by decide) rfl (by first | rfl | assumption | exact sh_house (by omega) | exact sh_wish (by omega) | exact sh_wor (by omega) | exact sh_bar (by omega) | exact sh_term (by omega) | exact sh_sheet (by omega) | exact sh_items (by omega) | exact sh_sums (by omega)) rfl rfl (c_X12_thingsOf (aK_i ?_))
            refine wp_cV (pc := 26) dX12_envy_26 lk_12_200 rfl (by decide) rfl (by first | rfl | assumption | exact sh_house (by omega) | exact sh_wish (by omega) | exact sh_wor (by omega) | exact sh_bar (by omega) | exact sh_term (by omega) | exact sh_sheet (by omega) | exact sh_items (by omega) | exact sh_sums (by omega)) rfl rfl (m_worth hW hi htj rfl (aK_i ?_))
            refine wp_aload_n (pc := 29) dX12_envy_29 (by first | rfl | assumption | (repeat first | assumption | rfl | refine aG_n ?_ rfl rfl)) ?_
            refine wp_iload_n (pc := 30) dX12_envy_30 (by first | rfl | assumption | (repeat first | assumption | rfl | refine aG_n ?_ rfl rfl)) ?_
            refine wp_aload_n (pc := 31) dX12_envy_31 (by first | rfl | assumption | (repeat first | assumption | rfl | refine aG_n ?_ rfl rfl)) ?_
            refine wp_iload_n (pc := 32) dX12_envy_32 (by first | rfl | assumption | (repeat first | assumption | rfl | refine aG_n ?_ rfl rfl)) ?_
            refine wp_cV (pc := 33) dX12_envy_33 lk_12_208 rfl (by decide) rfl (by first | rfl | assumption | exact sh_house (by omega) | exact sh_wish (by omega) | exact sh_wor (by omega) | exact sh_bar (by omega) | exact sh_term (by omega) | exact sh_sheet (by omega) | exact sh_items (by omega) | exact sh_sums (by omega)) rfl rfl (c_X12_thingsOf (aK_i ?_))
            refine wp_cV (pc := 36) dX12_envy_36 lk_12_200 rfl (by decide) rfl (by first | rfl | assumption | exact sh_house (by omega) | exact sh_wish (by omega) | exact sh_wor (by omega) | exact sh_bar (by omega) | exact sh_term (by omega) | exact sh_sheet (by omega) | exact sh_items (by omega) | exact sh_sums (by omega)) rfl rfl (m_worth hW hi hti rfl (aK_i ?_))
            refine wp_icmp_le (pc := 39) (tgt := 62) dX12_envy_39 rfl (fun q => absurd q (fun z => i_nle c1 z)) (fun _ => ?_)
            refine wp_aload_n (pc := 42) dX12_envy_42 (by first | rfl | assumption | (repeat first | assumption | rfl | refine aG_n ?_ rfl rfl)) ?_
            refine wp_iload_n (pc := 43) dX12_envy_43 (by first | rfl | assumption | (repeat first | assumption | rfl | refine aG_n ?_ rfl rfl)) ?_
            refine wp_aload_n (pc := 44) dX12_envy_44 (by first | rfl | assumption | (repeat first | assumption | rfl | refine aG_n ?_ rfl rfl)) ?_
            refine wp_iload_n (pc := 45) dX12_envy_45 (by first | rfl | assumption | (repeat first | assumption | rfl | refine aG_n ?_ rfl rfl)) ?_
            refine wp_cV (pc := 46) dX12_envy_46 lk_12_208 rfl (by decide) rfl (by first | rfl | assumption | exact sh_house (by omega) | exact sh_wish (by omega) | exact sh_wor (by omega) | exact sh_bar (by omega) | exact sh_term (by omega) | exact sh_sheet (by omega) | exact sh_items (by omega) | exact sh_sums (by omega)) rfl rfl (c_X12_thingsOf (aK_i ?_))
            refine wp_cV (pc := 49) dX12_envy_49 lk_12_204 rfl (by decide) rfl (by first | rfl | assumption | exact sh_house (by omega) | exact sh_wish (by omega) | exact sh_wor (by omega) | exact sh_bar (by omega) | exact sh_term (by omega) | exact sh_sheet (by omega) | exact sh_items (by omega) | exact sh_sums (by omega)) rfl rfl (m_barred hW hi htj rfl (fun q => absurd q (fun z => z c3)) (fun _ => aK_i ?_))
            refine wp_if_ne (pc := 52) (tgt := 62) dX12_envy_52 rfl (fun q => absurd q (by decide)) (fun _ => ?_)
            refine wp_bipush (pc := 55) (v := 10) dX12_envy_55 (by decide) ?_
            refine wp_iload_n (pc := 57) dX12_envy_57 (by first | rfl | assumption | (repeat first | assumption | rfl | refine aG_n ?_ rfl rfl)) ?_
            refine wp_imul (pc := 58) dX12_envy_58 ?_
            refine wp_iload_n (pc := 59) dX12_envy_59 (by first | rfl | assumption | (repeat first | assumption | rfl | refine aG_n ?_ rfl rfl)) ?_
            refine wp_iadd (pc := 60) dX12_envy_60 ?_
            refine wp_ireturn (pc := 61) dX12_envy_61 rfl (by first | rfl | decide | assumption) ?_
            rw [er]; exact k1 i j hi hj4 ⟨c3, c1⟩ H
          · refine wp_iload_n (pc := 9) dX12_envy_9 (by first | rfl | assumption | (repeat first | assumption | rfl | refine aG_n ?_ rfl rfl)) ?_
            refine wp_iconst (pc := 10) (v := 4) dX12_envy_10 (by decide) ?_
            refine wp_icmp_ge (pc := 11) (tgt := 68) dX12_envy_11 rfl (fun q => absurd q (nI_ge (a := j) (b := 4) (by omega) (by omega))) (fun _ => ?_)
            refine wp_iload_n (pc := 14) dX12_envy_14 (by first | rfl | assumption | (repeat first | assumption | rfl | refine aG_n ?_ rfl rfl)) ?_
            refine wp_iload_n (pc := 15) dX12_envy_15 (by first | rfl | assumption | (repeat first | assumption | rfl | refine aG_n ?_ rfl rfl)) ?_
            refine wp_icmp_eq (pc := 16) (tgt := 62) dX12_envy_16 rfl (fun q => absurd q cne) (fun _ => ?_)
            refine wp_aload_n (pc := 19) dX12_envy_19 (by first | rfl | assumption | (repeat first | assumption | rfl | refine aG_n ?_ rfl rfl)) ?_
            refine wp_iload_n (pc := 20) dX12_envy_20 (by first | rfl | assumption | (repeat first | assumption | rfl | refine aG_n ?_ rfl rfl)) ?_
            refine wp_aload_n (pc := 21) dX12_envy_21 (by first | rfl | assumption | (repeat first | assumption | rfl | refine aG_n ?_ rfl rfl)) ?_
            refine wp_iload_n (pc := 22) dX12_envy_22 (by first | rfl | assumption | (repeat first | assumption | rfl | refine aG_n ?_ rfl rfl)) ?_
            refine wp_cV (pc := 23) dX12_envy_23 lk_12_208 rfl (by decide) rfl (by first | rfl | assumption | exact sh_house (by omega) | exact sh_wish (by omega) | exact sh_wor (by omega) | exact sh_bar (by omega) | exact sh_term (by omega) | exact sh_sheet (by omega) | exact sh_items (by omega) | exact sh_sums (by omega)) rfl rfl (c_X12_thingsOf (aK_i ?_))
            refine wp_cV (pc := 26) dX12_envy_26 lk_12_200 rfl (by decide) rfl (by first | rfl | assumption | exact sh_house (by omega) | exact sh_wish (by omega) | exact sh_wor (by omega) | exact sh_bar (by omega) | exact sh_term (by omega) | exact sh_sheet (by omega) | exact sh_items (by omega) | exact sh_sums (by omega)) rfl rfl (m_worth hW hi htj rfl (aK_i ?_))
            refine wp_aload_n (pc := 29) dX12_envy_29 (by first | rfl | assumption | (repeat first | assumption | rfl | refine aG_n ?_ rfl rfl)) ?_
            refine wp_iload_n (pc := 30) dX12_envy_30 (by first | rfl | assumption | (repeat first | assumption | rfl | refine aG_n ?_ rfl rfl)) ?_
            refine wp_aload_n (pc := 31) dX12_envy_31 (by first | rfl | assumption | (repeat first | assumption | rfl | refine aG_n ?_ rfl rfl)) ?_
            refine wp_iload_n (pc := 32) dX12_envy_32 (by first | rfl | assumption | (repeat first | assumption | rfl | refine aG_n ?_ rfl rfl)) ?_
            refine wp_cV (pc := 33) dX12_envy_33 lk_12_208 rfl (by decide) rfl (by first | rfl | assumption | exact sh_house (by omega) | exact sh_wish (by omega) | exact sh_wor (by omega) | exact sh_bar (by omega) | exact sh_term (by omega) | exact sh_sheet (by omega) | exact sh_items (by omega) | exact sh_sums (by omega)) rfl rfl (c_X12_thingsOf (aK_i ?_))
            refine wp_cV (pc := 36) dX12_envy_36 lk_12_200 rfl (by decide) rfl (by first | rfl | assumption | exact sh_house (by omega) | exact sh_wish (by omega) | exact sh_wor (by omega) | exact sh_bar (by omega) | exact sh_term (by omega) | exact sh_sheet (by omega) | exact sh_items (by omega) | exact sh_sums (by omega)) rfl rfl (m_worth hW hi hti rfl (aK_i ?_))
            refine wp_icmp_le (pc := 39) (tgt := 62) dX12_envy_39 rfl (fun q => absurd q (fun z => i_nle c1 z)) (fun _ => ?_)
            refine wp_aload_n (pc := 42) dX12_envy_42 (by first | rfl | assumption | (repeat first | assumption | rfl | refine aG_n ?_ rfl rfl)) ?_
            refine wp_iload_n (pc := 43) dX12_envy_43 (by first | rfl | assumption | (repeat first | assumption | rfl | refine aG_n ?_ rfl rfl)) ?_
            refine wp_aload_n (pc := 44) dX12_envy_44 (by first | rfl | assumption | (repeat first | assumption | rfl | refine aG_n ?_ rfl rfl)) ?_
            refine wp_iload_n (pc := 45) dX12_envy_45 (by first | rfl | assumption | (repeat first | assumption | rfl | refine aG_n ?_ rfl rfl)) ?_
            refine wp_cV (pc := 46) dX12_envy_46 lk_12_208 rfl (by decide) rfl (by first | rfl | assumption | exact sh_house (by omega) | exact sh_wish (by omega) | exact sh_wor (by omega) | exact sh_bar (by omega) | exact sh_term (by omega) | exact sh_sheet (by omega) | exact sh_items (by omega) | exact sh_sums (by omega)) rfl rfl (c_X12_thingsOf (aK_i ?_))
            refine wp_cV (pc := 49) dX12_envy_49 lk_12_204 rfl (by decide) rfl (by first | rfl | assumption | exact sh_house (by omega) | exact sh_wish (by omega) | exact sh_wor (by omega) | exact sh_bar (by omega) | exact sh_term (by omega) | exact sh_sheet (by omega) | exact sh_items (by omega) | exact sh_sums (by omega)) rfl rfl (m_barred hW hi htj rfl (fun _ => aK_i ?_) (fun q => False.elim (c3 q)))
            refine wp_if_ne (pc := 52) (tgt := 62) dX12_envy_52 rfl (fun _ => ?_) (fun q => absurd q (by decide))
            refine wp_iinc (pc := 62) dX12_envy_62 (by decide) (by first | rfl | assumption | (repeat first | assumption | rfl | refine aG_n ?_ rfl rfl)) rfl ?_
            refine wp_goto (pc := 65) (tgt := 9) dX12_envy_65 rfl ?_
            exact l_X12_envy hW k1 k2 f i (j + 1) (by omega) (by omega) (by omega) (hstep (fun z => c3 z.1)) _ (by first | rfl | assumption | (repeat first | assumption | rfl | refine aG_n ?_ rfl rfl)) (by first | rfl | assumption | (repeat first | assumption | rfl | refine aG_n ?_ rfl rfl)) (by rw [← nI_i1]; first | rfl | assumption | (repeat first | assumption | rfl | refine aG_n ?_ rfl rfl))
        · refine wp_iload_n (pc := 9) dX12_envy_9 (by first | rfl | assumption | (repeat first | assumption | rfl | refine aG_n ?_ rfl rfl)) ?_
          refine wp_iconst (pc := 10) (v := 4) dX12_envy_10 (by decide) ?_
          refine wp_icmp_ge (pc := 11) (tgt := 68) dX12_envy_11 rfl (fun q => absurd q (nI_ge (a := j) (b := 4) (by omega) (by omega))) (fun _ => ?_)
          refine wp_iload_n (pc := 14) dX12_envy_14 (by first | rfl | assumption | (repeat first | assumption | rfl | refine aG_n ?_ rfl rfl)) ?_
          refine wp_iload_n (pc := 15) dX12_envy_15 (by first | rfl | assumption | (repeat first | assumption | rfl | refine aG_n ?_ rfl rfl)) ?_
          refine wp_icmp_eq (pc := 16) (tgt := 62) dX12_envy_16 rfl (fun q => absurd q cne) (fun _ => ?_)
          refine wp_aload_n (pc := 19) dX12_envy_19 (by first | rfl | assumption | (repeat first | assumption | rfl | refine aG_n ?_ rfl rfl)) ?_
          refine wp_iload_n (pc := 20) dX12_envy_20 (by first | rfl | assumption | (repeat first | assumption | rfl | refine aG_n ?_ rfl rfl)) ?_
          refine wp_aload_n (pc := 21) dX12_envy_21 (by first | rfl | assumption | (repeat first | assumption | rfl | refine aG_n ?_ rfl rfl)) ?_
          refine wp_iload_n (pc := 22) dX12_envy_22 (by first | rfl | assumption | (repeat first | assumption | rfl | refine aG_n ?_ rfl rfl)) ?_
          refine wp_cV (pc := 23) dX12_envy_23 lk_12_208 rfl (by decide) rfl (by first | rfl | assumption | exact sh_house (by omega) | exact sh_wish (by omega) | exact sh_wor (by omega) | exact sh_bar (by omega) | exact sh_term (by omega) | exact sh_sheet (by omega) | exact sh_items (by omega) | exact sh_sums (by omega)) rfl rfl (c_X12_thingsOf (aK_i ?_))
          refine wp_cV (pc := 26) dX12_envy_26 lk_12_200 rfl (by decide) rfl (by first | rfl | assumption | exact sh_house (by omega) | exact sh_wish (by omega) | exact sh_wor (by omega) | exact sh_bar (by omega) | exact sh_term (by omega) | exact sh_sheet (by omega) | exact sh_items (by omega) | exact sh_sums (by omega)) rfl rfl (m_worth hW hi htj rfl (aK_i ?_))
          refine wp_aload_n (pc := 29) dX12_envy_29 (by first | rfl | assumption | (repeat first | assumption | rfl | refine aG_n ?_ rfl rfl)) ?_
          refine wp_iload_n (pc := 30) dX12_envy_30 (by first | rfl | assumption | (repeat first | assumption | rfl | refine aG_n ?_ rfl rfl)) ?_
          refine wp_aload_n (pc := 31) dX12_envy_31 (by first | rfl | assumption | (repeat first | assumption | rfl | refine aG_n ?_ rfl rfl)) ?_
          refine wp_iload_n (pc := 32) dX12_envy_32 (by first | rfl | assumption | (repeat first | assumption | rfl | refine aG_n ?_ rfl rfl)) ?_
          refine wp_cV (pc := 33) dX12_envy_33 lk_12_208 rfl (by decide) rfl (by first | rfl | assumption | exact sh_house (by omega) | exact sh_wish (by omega) | exact sh_wor (by omega) | exact sh_bar (by omega) | exact sh_term (by omega) | exact sh_sheet (by omega) | exact sh_items (by omega) | exact sh_sums (by omega)) rfl rfl (c_X12_thingsOf (aK_i ?_))
          refine wp_cV (pc := 36) dX12_envy_36 lk_12_200 rfl (by decide) rfl (by first | rfl | assumption | exact sh_house (by omega) | exact sh_wish (by omega) | exact sh_wor (by omega) | exact sh_bar (by omega) | exact sh_term (by omega) | exact sh_sheet (by omega) | exact sh_items (by omega) | exact sh_sums (by omega)) rfl rfl (m_worth hW hi hti rfl (aK_i ?_))
          refine wp_icmp_le (pc := 39) (tgt := 62) dX12_envy_39 rfl (fun _ => ?_) (fun q => absurd (i_nlt c1) q)
          refine wp_iinc (pc := 62) dX12_envy_62 (by decide) (by first | rfl | assumption | (repeat first | assumption | rfl | refine aG_n ?_ rfl rfl)) rfl ?_
          refine wp_goto (pc := 65) (tgt := 9) dX12_envy_65 rfl ?_
          exact l_X12_envy hW k1 k2 f i (j + 1) (by omega) (by omega) (by omega) (hstep (fun z => c1 z.2)) _ (by first | rfl | assumption | (repeat first | assumption | rfl | refine aG_n ?_ rfl rfl)) (by first | rfl | assumption | (repeat first | assumption | rfl | refine aG_n ?_ rfl rfl)) (by rw [← nI_i1]; first | rfl | assumption | (repeat first | assumption | rfl | refine aG_n ?_ rfl rfl))
end ENVY
theorem J_envy : Jnt mX11_envy mX12_envy [] := by
  intro X μ Q hI k
  refine wp_iconst (pc := 0) (v := 0) dX11_envy_0 (by decide) ?_
  refine wp_istore_n (pc := 1) dX11_envy_1 (by decide) ?_
  refine wp_iload_n (pc := 2) dX11_envy_2 (by first | rfl | assumption | (repeat first | assumption | rfl | refine aG_n ?_ rfl rfl)) ?_
  refine wp_iconst (pc := 3) (v := 4) dX11_envy_3 (by decide) ?_
  refine wp_icmp_ge (pc := 4) (tgt := 54) dX11_envy_4 rfl (fun q => absurd q (by decide)) (fun _ => ?_)
  refine wp_iconst (pc := 7) (v := 0) dX11_envy_7 (by decide) ?_
  refine wp_istore_n (pc := 8) dX11_envy_8 (by decide) ?_
  refine l_X11_envy hI.1 ?_ ?_ 19 0 0 (by omega) (by omega) (by omega) (fun i' j' a b h => by omega) _ (by first | rfl | assumption | (repeat first | assumption | rfl | refine aG_n ?_ rfl rfl)) (by first | rfl | assumption | (repeat first | assumption | rfl | refine aG_n ?_ rfl rfl)) (by first | rfl | assumption | (repeat first | assumption | rfl | refine aG_n ?_ rfl rfl))
  · intro i j hi hj hP H
    refine k _ _ (fun Q' k' => ?_)
    refine wp_iconst (pc := 0) (v := 0) dX12_envy_0 (by decide) ?_
    refine wp_istore_n (pc := 1) dX12_envy_1 (by decide) ?_
    refine wp_iload_n (pc := 2) dX12_envy_2 (by first | rfl | assumption | (repeat first | assumption | rfl | refine aG_n ?_ rfl rfl)) ?_
    refine wp_iconst (pc := 3) (v := 4) dX12_envy_3 (by decide) ?_
    refine wp_icmp_ge (pc := 4) (tgt := 74) dX12_envy_4 rfl (fun q => absurd q (by decide)) (fun _ => ?_)
    refine wp_iconst (pc := 7) (v := 0) dX12_envy_7 (by decide) ?_
    refine wp_istore_n (pc := 8) dX12_envy_8 (by decide) ?_
    refine l_X12_envy hI.2.2.2.1 ?_ ?_ 19 0 0 (by omega) (by omega) (by omega) (fun i' j' a b h => by omega) _ (by first | rfl | assumption | (repeat first | assumption | rfl | refine aG_n ?_ rfl rfl)) (by first | rfl | assumption | (repeat first | assumption | rfl | refine aG_n ?_ rfl rfl)) (by first | rfl | assumption | (repeat first | assumption | rfl | refine aG_n ?_ rfl rfl))
    · intro i2 j2 hi2 hj2 hP2 H2
      have h1 : ¬ 4 * i2 + j2 < 4 * i + j := fun z => H i2 j2 hi2 hj2 z hP2
      have h2 : ¬ 4 * i + j < 4 * i2 + j2 := fun z => H2 i j hi hj z hP
      obtain rfl : i2 = i := by omega
      obtain rfl : j2 = j := by omega
      exact k' _ hI
    · intro H2
      exact absurd hP (H2 i j hi hj)
  · intro H
    refine k _ _ (fun Q' k' => ?_)
    refine wp_iconst (pc := 0) (v := 0) dX12_envy_0 (by decide) ?_
    refine wp_istore_n (pc := 1) dX12_envy_1 (by decide) ?_
    refine wp_iload_n (pc := 2) dX12_envy_2 (by first | rfl | assumption | (repeat first | assumption | rfl | refine aG_n ?_ rfl rfl)) ?_
    refine wp_iconst (pc := 3) (v := 4) dX12_envy_3 (by decide) ?_
    refine wp_icmp_ge (pc := 4) (tgt := 74) dX12_envy_4 rfl (fun q => absurd q (by decide)) (fun _ => ?_)
    refine wp_iconst (pc := 7) (v := 0) dX12_envy_7 (by decide) ?_
    refine wp_istore_n (pc := 8) dX12_envy_8 (by decide) ?_
    refine l_X12_envy hI.2.2.2.1 ?_ ?_ 19 0 0 (by omega) (by omega) (by omega) (fun i' j' a b h => by omega) _ (by first | rfl | assumption | (repeat first | assumption | rfl | refine aG_n ?_ rfl rfl)) (by first | rfl | assumption | (repeat first | assumption | rfl | refine aG_n ?_ rfl rfl)) (by first | rfl | assumption | (repeat first | assumption | rfl | refine aG_n ?_ rfl rfl))
    · intro i2 j2 hi2 hj2 hP2 H2
      exact absurd hP2 (H i2 j2 hi2 hj2)
    · intro H2
      exact k' _ hI

section TAKE
variable {X : aX} {μ : Mm} {Q : Option Value → Mm → Prop} {i j : Nat}
theorem e561 (i : Nat) : 56 + 4 * i + 1 = 57 + 4 * i := by omega
theorem e562 (i : Nat) : 56 + 4 * i + 2 = 58 + 4 * i := by omega
theorem c_take71 (hI : Inv μ) (hi : i < 4) (hj : j < 4) (k : ∀ μ1 : Mm, Inv μ1 → (∀ c, c ≠ 71 → μ1.1 c = μ.1 c) → (∀ c, c ≠ 71 → μ1.2 c = μ.2 c) → (∀ q, th μ.1 q = th μ1.1 q) → Pr μ1 71 (two (th μ1.1 i) (th μ1.1 j)) (two (56 + 4 * i) (56 + 4 * j)) → μ1.1 71 2 = μ1.1 88 i → μ1.1 71 3 = μ1.1 88 j → Q none μ1) : WP X mX4_take 0 (lv_args 0 [.ref 71, .ref (55 + 4 * i), .ref (55 + 4 * j)]) [] μ Q := by
  refine c_X4_take rfl (by decide) (by decide) hI.1 hI.2.2.2.1 hi hj (fun μ1 e1 e2 hPr e3 e4 => ?_)
  have et : ∀ q, th μ.1 q = th μ1.1 q := fun q => by unfold th; rw [e1 87 (by decide)]
  simp only [et] at hPr
  refine k μ1 (Inv_s (M := μ.1) (R := μ.2) hI (fun c q z => by rw [e1 c (fun y => z (by unfold scr; omega))]) (e2 74 (by decide))) e1 e2 et hPr ?_ ?_
  · rw [e3, e1 88 (by decide)]; exact (hI.2.1 i hi).1
  · rw [e4, e1 88 (by decide)]; exact (hI.2.1 j hj).1
theorem gnd_0 (M : MM) (i j u : Nat) : gnd M (two (th M i) (th M j)) (two (56 + 4 * i) (56 + 4 * j)) 0 u = M (57 + 4 * i) (th M i ^^^ u) - M (57 + 4 * i) (th M i) := by
  simp only [gnd, two, if_true, e561]
theorem gnd_1 (M : MM) (i j u : Nat) : gnd M (two (th M i) (th M j)) (two (56 + 4 * i) (56 + 4 * j)) 1 u = M (57 + 4 * j) (th M j ^^^ u) - M (57 + 4 * j) (th M j) := by
  show M (56 + 4 * j + 1) (th M j ^^^ u) - M (56 + 4 * j + 1) (th M j) = _
  rw [e561]
theorem opB_i (M : MM) (i j u : Nat) : opB M (two (th M i) (th M j)) (two (56 + 4 * i) (56 + 4 * j)) u ↔ M (58 + 4 * i) (th M i ^^^ u) = 0 ∧ M (58 + 4 * j) (th M j ^^^ u) = 0 := by
  show (M (56 + 4 * i + 2) (th M i ^^^ u) = 0 ∧ M (56 + 4 * j + 2) (th M j ^^^ u) = 0) ↔ _
  rw [e562, e562]
theorem goB_i {M : MM} {P i j u : Nat} {p : Int32} (h2 : M P 2 = M 88 i) (h3 : M P 3 = M 88 j) : goB M P (two (th M i) (th M j)) (two (56 + 4 * i) (56 + 4 * j)) u p ↔ goM M i j u p := by
  unfold goB goM
  rw [opB_i, h2, h3, and_assoc]
end TAKE
theorem exE_c {M M' : MM} {a b s p : Int32} (h : ∀ q, th M q = th M' q) : exE M a b s p ↔ exE M' a b s p := by
  unfold exE; simp only [h]
theorem i_nle {a b : Int32} (h : a < b) (z : b ≤ a) : False := by rw [i_lt] at h; rw [i_le] at z; omega
theorem i_nlt {a b : Int32} (h : ¬ a < b) : b ≤ a := by rw [i_lt] at h; rw [i_le]; omega
theorem J_gain (a b s p wh : Int32) : Jnt mX11_gain mX12_gain [.int a, .int b, .int s, .int p, .int wh] := by
  intro X μ Q hI k
  by_cases c1 : exE μ.1 a b s p
  · by_cases c2 : inR wh 0 1
    · obtain ⟨i, j, u, hi, hj, hij, hu, rfl, rfl, rfl, hp, hx⟩ := id c1
      obtain ⟨d, hd, rfl⟩ := inR_of (n := 1) c2
      refine wp_aload_n (pc := 0) dX11_gain_0 (by first | rfl | assumption | (repeat first | assumption | rfl | refine aG_n ?_ rfl rfl)) ?_
      refine wp_iload_n (pc := 1) dX11_gain_1 (by first | rfl | assumption | (repeat first | assumption | rfl | refine aG_n ?_ rfl rfl)) ?_
      refine wp_iload_n (pc := 2) dX11_gain_2 (by first | rfl | assumption | (repeat first | assumption | rfl | refine aG_n ?_ rfl rfl)) ?_
      refine wp_iload_n (pc := 3) dX11_gain_3 (by first | rfl | assumption | (repeat first | assumption | rfl | refine aG_n ?_ rfl rfl)) ?_
      refine wp_iload (pc := 4) dX11_gain_4 (by first | rfl | assumption | (repeat first | assumption | rfl | refine aG_n ?_ rfl rfl)) ?_
      refine wp_cV (pc := 6) dX11_gain_6 lk_11_168 rfl (by decide) rfl (by first | rfl | assumption | exact sh_house (by omega) | exact sh_wish (by omega) | exact sh_wor (by omega) | exact sh_bar (by omega) | exact sh_term (by omega) | exact sh_sheet (by omega) | exact sh_items (by omega) | exact sh_sums (by omega)) rfl rfl (c_X11_isExchange hI.1 (fun _ => aK_i ?_) (fun q => absurd c1 q))
      refine wp_if_eq (pc := 9) (tgt := 22) dX11_gain_9 rfl (fun q => absurd q (by decide)) (fun _ => ?_)
      refine wp_iload (pc := 12) dX11_gain_12 (by first | rfl | assumption | (repeat first | assumption | rfl | refine aG_n ?_ rfl rfl)) ?_
      refine wp_iconst (pc := 14) (v := 0) dX11_gain_14 (by decide) ?_
      refine wp_iconst (pc := 15) (v := 1) dX11_gain_15 (by decide) ?_
      refine wp_cS (pc := 16) dX11_gain_16 lk_11_112 rfl rfl rfl (c_X11_isWithin (fun _ => aK_i ?_) (fun q => absurd c2 q))
      refine wp_if_ne (pc := 19) (tgt := 26) dX11_gain_19 rfl (fun _ => ?_) (fun q => absurd q (by decide))
      refine wp_aload_n (pc := 26) dX11_gain_26 (by first | rfl | assumption | (repeat first | assumption | rfl | refine aG_n ?_ rfl rfl)) ?_
      refine wp_getR (pc := 27) dX11_gain_27 fl_11_80 (by first | rfl | assumption | exact sh_house (by omega) | exact sh_wish (by omega) | exact sh_wor (by omega) | exact sh_bar (by omega) | exact sh_term (by omega) | exact sh_sheet (by omega) | exact sh_items (by omega) | exact sh_sums (by omega)) rfl ?_
      refine wp_aload_n (pc := 30) dX11_gain_30 (by first | rfl | assumption | (repeat first | assumption | rfl | refine aG_n ?_ rfl rfl)) ?_
      refine wp_getR (pc := 31) dX11_gain_31 fl_11_11 (by first | rfl | assumption | exact sh_house (by omega) | exact sh_wish (by omega) | exact sh_wor (by omega) | exact sh_bar (by omega) | exact sh_term (by omega) | exact sh_sheet (by omega) | exact sh_items (by omega) | exact sh_sums (by omega)) rfl ?_
      refine wp_iload_n (pc := 34) dX11_gain_34 (by first | rfl | assumption | (repeat first | assumption | rfl | refine aG_n ?_ rfl rfl)) ?_
      refine wp_aald (pc := 35) dX11_gain_35 (by first | rfl | assumption | exact sh_house (by omega) | exact sh_wish (by omega) | exact sh_wor (by omega) | exact sh_bar (by omega) | exact sh_term (by omega) | exact sh_sheet (by omega) | exact sh_items (by omega) | exact sh_sums (by omega)) (vp_in_nI (by omega) (by decide)) (by decide) (el_house (by omega)) ?_
      refine wp_aload_n (pc := 36) dX11_gain_36 (by first | rfl | assumption | (repeat first | assumption | rfl | refine aG_n ?_ rfl rfl)) ?_
      refine wp_getR (pc := 37) dX11_gain_37 fl_11_11 (by first | rfl | assumption | exact sh_house (by omega) | exact sh_wish (by omega) | exact sh_wor (by omega) | exact sh_bar (by omega) | exact sh_term (by omega) | exact sh_sheet (by omega) | exact sh_items (by omega) | exact sh_sums (by omega)) rfl ?_
      refine wp_iload_n (pc := 40) dX11_gain_40 (by first | rfl | assumption | (repeat first | assumption | rfl | refine aG_n ?_ rfl rfl)) ?_
      refine wp_aald (pc := 41) dX11_gain_41 (by first | rfl | assumption | exact sh_house (by omega) | exact sh_wish (by omega) | exact sh_wor (by omega) | exact sh_bar (by omega) | exact sh_term (by omega) | exact sh_sheet (by omega) | exact sh_items (by omega) | exact sh_sums (by omega)) (vp_in_nI (by omega) (by decide)) (by decide) (el_house (by omega)) ?_
      refine wp_cV (pc := 42) dX11_gain_42 lk_11_172 rfl (by decide) rfl (by first | rfl | assumption | exact sh_house (by omega) | exact sh_wish (by omega) | exact sh_wor (by omega) | exact sh_bar (by omega) | exact sh_term (by omega) | exact sh_sheet (by omega) | exact sh_items (by omega) | exact sh_sums (by omega)) rfl rfl (c_take71 hI hi hj (fun μ1 hI1 e1 e2 et hPr e3 e4 => aK_v ?_))
      refine wp_aload_n (pc := 45) dX11_gain_45 (by first | rfl | assumption | (repeat first | assumption | rfl | refine aG_n ?_ rfl rfl)) ?_
      refine wp_getR (pc := 46) dX11_gain_46 fl_11_80 (by first | rfl | assumption | exact sh_house (by omega) | exact sh_wish (by omega) | exact sh_wor (by omega) | exact sh_bar (by omega) | exact sh_term (by omega) | exact sh_sheet (by omega) | exact sh_items (by omega) | exact sh_sums (by omega)) rfl ?_
      refine wp_iload (pc := 49) dX11_gain_49 (by first | rfl | assumption | (repeat first | assumption | rfl | refine aG_n ?_ rfl rfl)) ?_
      refine wp_iload_n (pc := 51) dX11_gain_51 (by first | rfl | assumption | (repeat first | assumption | rfl | refine aG_n ?_ rfl rfl)) ?_
      refine wp_iload (pc := 52) dX11_gain_52 (by first | rfl | assumption | (repeat first | assumption | rfl | refine aG_n ?_ rfl rfl)) ?_
      refine wp_cV (pc := 54) dX11_gain_54 lk_11_175 rfl (by decide) rfl (by first | rfl | assumption | exact sh_house (by omega) | exact sh_wish (by omega) | exact sh_wor (by omega) | exact sh_bar (by omega) | exact sh_term (by omega) | exact sh_sheet (by omega) | exact sh_items (by omega) | exact sh_sums (by omega)) rfl rfl (c_X4_gained hPr (by omega) hu (aK_i ?_))
      refine wp_ireturn (pc := 57) dX11_gain_57 rfl (by first | rfl | decide | assumption) ?_
      refine k _ _ (fun Q' k' => ?_)
      rw [exE_c et] at c1
      obtain rfl | rfl : d = 0 ∨ d = 1 := by omega
      · refine wp_aload_n (pc := 0) dX12_gain_0 (by first | rfl | assumption | (repeat first | assumption | rfl | refine aG_n ?_ rfl rfl)) ?_
        refine wp_iload_n (pc := 1) dX12_gain_1 (by first | rfl | assumption | (repeat first | assumption | rfl | refine aG_n ?_ rfl rfl)) ?_
        refine wp_iload_n (pc := 2) dX12_gain_2 (by first | rfl | assumption | (repeat first | assumption | rfl | refine aG_n ?_ rfl rfl)) ?_
        refine wp_iload_n (pc := 3) dX12_gain_3 (by first | rfl | assumption | (repeat first | assumption | rfl | refine aG_n ?_ rfl rfl)) ?_
        refine wp_iload (pc := 4) dX12_gain_4 (by first | rfl | assumption | (repeat first | assumption | rfl | refine aG_n ?_ rfl rfl)) ?_
        refine wp_cV (pc := 6) dX12_gain_6 lk_12_220 rfl (by decide) rfl (by first | rfl | assumption | exact sh_house (by omega) | exact sh_wish (by omega) | exact sh_wor (by omega) | exact sh_bar (by omega) | exact sh_term (by omega) | exact sh_sheet (by omega) | exact sh_items (by omega) | exact sh_sums (by omega)) rfl rfl (c_X12_isExchange (fun _ => aK_i ?_) (fun q => absurd c1 q))
        refine wp_if_eq (pc := 9) (tgt := 23) dX12_gain_9 rfl (fun q => absurd q (by decide)) (fun _ => ?_)
        refine wp_iload (pc := 12) dX12_gain_12 (by first | rfl | assumption | (repeat first | assumption | rfl | refine aG_n ?_ rfl rfl)) ?_
        refine wp_i2l (pc := 14) dX12_gain_14 ?_
        refine wp_lconst (pc := 15) (v := 0) dX12_gain_15 (by decide) ?_
        refine wp_lconst (pc := 16) (v := 1) dX12_gain_16 (by decide) ?_
        refine wp_cS (pc := 17) dX12_gain_17 lk_12_133 rfl rfl rfl (c_X12_in (fun _ => aK_i ?_) (fun q => absurd (by rw [w_int]; exact c2) q))
        refine wp_if_ne (pc := 20) (tgt := 27) dX12_gain_20 rfl (fun _ => ?_) (fun q => absurd q (by decide))
        refine wp_iload (pc := 27) dX12_gain_27 (by first | rfl | assumption | (repeat first | assumption | rfl | refine aG_n ?_ rfl rfl)) ?_
        refine wp_if_ne (pc := 29) (tgt := 44) dX12_gain_29 rfl (fun q => absurd rfl q) (fun _ => ?_)
        refine wp_aload_n (pc := 32) dX12_gain_32 (by first | rfl | assumption | (repeat first | assumption | rfl | refine aG_n ?_ rfl rfl)) ?_
        refine wp_iload_n (pc := 33) dX12_gain_33 (by first | rfl | assumption | (repeat first | assumption | rfl | refine aG_n ?_ rfl rfl)) ?_
        refine wp_iload_n (pc := 34) dX12_gain_34 (by first | rfl | assumption | (repeat first | assumption | rfl | refine aG_n ?_ rfl rfl)) ?_
        refine wp_cV (pc := 35) dX12_gain_35 lk_12_224 rfl (by decide) rfl (by first | rfl | assumption | exact sh_house (by omega) | exact sh_wish (by omega) | exact sh_wor (by omega) | exact sh_bar (by omega) | exact sh_term (by omega) | exact sh_sheet (by omega) | exact sh_items (by omega) | exact sh_sums (by omega)) rfl rfl (m_more hI1.2.2.2.1 hi hu rfl (aK_i ?_))
        refine wp_iload (pc := 38) dX12_gain_38 (by first | rfl | assumption | (repeat first | assumption | rfl | refine aG_n ?_ rfl rfl)) ?_
        refine wp_isub (pc := 40) dX12_gain_40 ?_
        refine wp_goto (pc := 41) (tgt := 53) dX12_gain_41 rfl ?_
        refine wp_ireturn (pc := 53) dX12_gain_53 rfl (by first | rfl | decide | assumption) ?_
        refine qEq ?_ (k' _ hI1)
        simp only [gnp, if_true, gnd_0]
      · refine wp_aload_n (pc := 0) dX12_gain_0 (by first | rfl | assumption | (repeat first | assumption | rfl | refine aG_n ?_ rfl rfl)) ?_
        refine wp_iload_n (pc := 1) dX12_gain_1 (by first | rfl | assumption | (repeat first | assumption | rfl | refine aG_n ?_ rfl rfl)) ?_
        refine wp_iload_n (pc := 2) dX12_gain_2 (by first | rfl | assumption | (repeat first | assumption | rfl | refine aG_n ?_ rfl rfl)) ?_
        refine wp_iload_n (pc := 3) dX12_gain_3 (by first | rfl | assumption | (repeat first | assumption | rfl | refine aG_n ?_ rfl rfl)) ?_
        refine wp_iload (pc := 4) dX12_gain_4 (by first | rfl | assumption | (repeat first | assumption | rfl | refine aG_n ?_ rfl rfl)) ?_
        refine wp_cV (pc := 6) dX12_gain_6 lk_12_220 rfl (by decide) rfl (by first | rfl | assumption | exact sh_house (by omega) | exact sh_wish (by omega) | exact sh_wor (by omega) | exact sh_bar (by omega) | exact sh_term (by omega) | exact sh_sheet (by omega) | exact sh_items (by omega) | exact sh_sums (by omega)) rfl rfl (c_X12_isExchange (fun _ => aK_i ?_) (fun q => absurd c1 q))
        refine wp_if_eq (pc := 9) (tgt := 23) dX12_gain_9 rfl (fun q => absurd q (by decide)) (fun _ => ?_)
        refine wp_iload (pc := 12) dX12_gain_12 (by first | rfl | assumption | (repeat first | assumption | rfl | refine aG_n ?_ rfl rfl)) ?_
        refine wp_i2l (pc := 14) dX12_gain_14 ?_
        refine wp_lconst (pc := 15) (v := 0) dX12_gain_15 (by decide) ?_
        refine wp_lconst (pc := 16) (v := 1) dX12_gain_16 (by decide) ?_
        refine wp_cS (pc := 17) dX12_gain_17 lk_12_133 rfl rfl rfl (c_X12_in (fun _ => aK_i ?_) (fun q => absurd (by rw [w_int]; exact c2) q))
        refine wp_if_ne (pc := 20) (tgt := 27) dX12_gain_20 rfl (fun _ => ?_) (fun q => absurd q (by decide))
        refine wp_iload (pc := 27) dX12_gain_27 (by first | rfl | assumption | (repeat first | assumption | rfl | refine aG_n ?_ rfl rfl)) ?_
        refine wp_if_ne (pc := 29) (tgt := 44) dX12_gain_29 rfl (fun _ => ?_) (fun q => absurd q (by decide))
        refine wp_aload_n (pc := 44) dX12_gain_44 (by first | rfl | assumption | (repeat first | assumption | rfl | refine aG_n ?_ rfl rfl)) ?_
        refine wp_iload_n (pc := 45) dX12_gain_45 (by first | rfl | assumption | (repeat first | assumption | rfl | refine aG_n ?_ rfl rfl)) ?_
        refine wp_iload_n (pc := 46) dX12_gain_46 (by first | rfl | assumption | (repeat first | assumption | rfl | refine aG_n ?_ rfl rfl)) ?_
        refine wp_cV (pc := 47) dX12_gain_47 lk_12_224 rfl (by decide) rfl (by first | rfl | assumption | exact sh_house (by omega) | exact sh_wish (by omega) | exact sh_wor (by omega) | exact sh_bar (by omega) | exact sh_term (by omega) | exact sh_sheet (by omega) | exact sh_items (by omega) | exact sh_sums (by omega)) rfl rfl (m_more hI1.2.2.2.1 hj hu rfl (aK_i ?_))
        refine wp_iload (pc := 50) dX12_gain_50 (by first | rfl | assumption | (repeat first | assumption | rfl | refine aG_n ?_ rfl rfl)) ?_
        refine wp_iadd (pc := 52) dX12_gain_52 ?_
        refine wp_ireturn (pc := 53) dX12_gain_53 rfl (by first | rfl | decide | assumption) ?_
        refine qEq ?_ (k' _ hI1)
        simp only [gnp, gnd_1]; rfl
    · refine wp_aload_n (pc := 0) dX11_gain_0 (by first | rfl | assumption | (repeat first | assumption | rfl | refine aG_n ?_ rfl rfl)) ?_
      refine wp_iload_n (pc := 1) dX11_gain_1 (by first | rfl | assumption | (repeat first | assumption | rfl | refine aG_n ?_ rfl rfl)) ?_
      refine wp_iload_n (pc := 2) dX11_gain_2 (by first | rfl | assumption | (repeat first | assumption | rfl | refine aG_n ?_ rfl rfl)) ?_
      refine wp_iload_n (pc := 3) dX11_gain_3 (by first | rfl | assumption | (repeat first | assumption | rfl | refine aG_n ?_ rfl rfl)) ?_
      refine wp_iload (pc := 4) dX11_gain_4 (by first | rfl | assumption | (repeat first | assumption | rfl | refine aG_n ?_ rfl rfl)) ?_
      refine wp_cV (pc := 6) dX11_gain_6 lk_11_168 rfl (by decide) rfl (by first | rfl | assumption | exact sh_house (by omega) | exact sh_wish (by omega) | exact sh_wor (by omega) | exact sh_bar (by omega) | exact sh_term (by omega) | exact sh_sheet (by omega) | exact sh_items (by omega) | exact sh_sums (by omega)) rfl rfl (c_X11_isExchange hI.1 (fun _ => aK_i ?_) (fun q => absurd c1 q))
      refine wp_if_eq (pc := 9) (tgt := 22) dX11_gain_9 rfl (fun q => absurd q (by decide)) (fun _ => ?_)
      refine wp_iload (pc := 12) dX11_gain_12 (by first | rfl | assumption | (repeat first | assumption | rfl | refine aG_n ?_ rfl rfl)) ?_
      refine wp_iconst (pc := 14) (v := 0) dX11_gain_14 (by decide) ?_
      refine wp_iconst (pc := 15) (v := 1) dX11_gain_15 (by decide) ?_
      refine wp_cS (pc := 16) dX11_gain_16 lk_11_112 rfl rfl rfl (c_X11_isWithin (fun q => absurd q c2) (fun _ => aK_i ?_))
      refine wp_if_ne (pc := 19) (tgt := 26) dX11_gain_19 rfl (fun q => absurd q (by decide)) (fun _ => ?_)
      refine wp_sipush (pc := 22) (v := -10001) dX11_gain_22 (by decide) ?_
      refine wp_ireturn (pc := 25) dX11_gain_25 rfl (by first | rfl | decide | assumption) ?_
      refine k _ _ (fun Q' k' => ?_)
      refine wp_aload_n (pc := 0) dX12_gain_0 (by first | rfl | assumption | (repeat first | assumption | rfl | refine aG_n ?_ rfl rfl)) ?_
      refine wp_iload_n (pc := 1) dX12_gain_1 (by first | rfl | assumption | (repeat first | assumption | rfl | refine aG_n ?_ rfl rfl)) ?_
      refine wp_iload_n (pc := 2) dX12_gain_2 (by first | rfl | assumption | (repeat first | assumption | rfl | refine aG_n ?_ rfl rfl)) ?_
      refine wp_iload_n (pc := 3) dX12_gain_3 (by first | rfl | assumption | (repeat first | assumption | rfl | refine aG_n ?_ rfl rfl)) ?_
      refine wp_iload (pc := 4) dX12_gain_4 (by first | rfl | assumption | (repeat first | assumption | rfl | refine aG_n ?_ rfl rfl)) ?_
      refine wp_cV (pc := 6) dX12_gain_6 lk_12_220 rfl (by decide) rfl (by first | rfl | assumption | exact sh_house (by omega) | exact sh_wish (by omega) | exact sh_wor (by omega) | exact sh_bar (by omega) | exact sh_term (by omega) | exact sh_sheet (by omega) | exact sh_items (by omega) | exact sh_sums (by omega)) rfl rfl (c_X12_isExchange (fun _ => aK_i ?_) (fun q => absurd c1 q))
      refine wp_if_eq (pc := 9) (tgt := 23) dX12_gain_9 rfl (fun q => absurd q (by decide)) (fun _ => ?_)
      refine wp_iload (pc := 12) dX12_gain_12 (by first | rfl | assumption | (repeat first | assumption | rfl | refine aG_n ?_ rfl rfl)) ?_
      refine wp_i2l (pc := 14) dX12_gain_14 ?_
      refine wp_lconst (pc := 15) (v := 0) dX12_gain_15 (by decide) ?_
      refine wp_lconst (pc := 16) (v := 1) dX12_gain_16 (by decide) ?_
      refine wp_cS (pc := 17) dX12_gain_17 lk_12_133 rfl rfl rfl (c_X12_in (fun q => absurd q (by rw [w_int]; exact c2)) (fun _ => aK_i ?_))
      refine wp_if_ne (pc := 20) (tgt := 27) dX12_gain_20 rfl (fun q => absurd q (by decide)) (fun _ => ?_)
      refine wp_sipush (pc := 23) (v := -10001) dX12_gain_23 (by decide) ?_
      refine wp_ireturn (pc := 26) dX12_gain_26 rfl (by first | rfl | decide | assumption) ?_
      exact k' _ hI
  · refine wp_aload_n (pc := 0) dX11_gain_0 (by first | rfl | assumption | (repeat first | assumption | rfl | refine aG_n ?_ rfl rfl)) ?_
    refine wp_iload_n (pc := 1) dX11_gain_1 (by first | rfl | assumption | (repeat first | assumption | rfl | refine aG_n ?_ rfl rfl)) ?_
    refine wp_iload_n (pc := 2) dX11_gain_2 (by first | rfl | assumption | (repeat first | assumption | rfl | refine aG_n ?_ rfl rfl)) ?_
    refine wp_iload_n (pc := 3) dX11_gain_3 (by first | rfl | assumption | (repeat first | assumption | rfl | refine aG_n ?_ rfl rfl)) ?_
    refine wp_iload (pc := 4) dX11_gain_4 (by first | rfl | assumption | (repeat first | assumption | rfl | refine aG_n ?_ rfl rfl)) ?_
    refine wp_cV (pc := 6) dX11_gain_6 lk_11_168 rfl (by decide) rfl (by first | rfl | assumption | exact sh_house (by omega) | exact sh_wish (by omega) | exact sh_wor (by omega) | exact sh_bar (by omega) | exact sh_term (by omega) | exact sh_sheet (by omega) | exact sh_items (by omega) | exact sh_sums (by omega)) rfl rfl (c_X11_isExchange hI.1 (fun q => absurd q c1) (fun _ => aK_i ?_))
    refine wp_if_eq (pc := 9) (tgt := 22) dX11_gain_9 rfl (fun _ => ?_) (fun q => absurd q (by decide))
    refine wp_sipush (pc := 22) (v := -10001) dX11_gain_22 (by decide) ?_
    refine wp_ireturn (pc := 25) dX11_gain_25 rfl (by first | rfl | decide | assumption) ?_
    refine k _ _ (fun Q' k' => ?_)
    refine wp_aload_n (pc := 0) dX12_gain_0 (by first | rfl | assumption | (repeat first | assumption | rfl | refine aG_n ?_ rfl rfl)) ?_
    refine wp_iload_n (pc := 1) dX12_gain_1 (by first | rfl | assumption | (repeat first | assumption | rfl | refine aG_n ?_ rfl rfl)) ?_
    refine wp_iload_n (pc := 2) dX12_gain_2 (by first | rfl | assumption | (repeat first | assumption | rfl | refine aG_n ?_ rfl rfl)) ?_
    refine wp_iload_n (pc := 3) dX12_gain_3 (by first | rfl | assumption | (repeat first | assumption | rfl | refine aG_n ?_ rfl rfl)) ?_
    refine wp_iload (pc := 4) dX12_gain_4 (by first | rfl | assumption | (repeat first | assumption | rfl | refine aG_n ?_ rfl rfl)) ?_
    refine wp_cV (pc := 6) dX12_gain_6 lk_12_220 rfl (by decide) rfl (by first | rfl | assumption | exact sh_house (by omega) | exact sh_wish (by omega) | exact sh_wor (by omega) | exact sh_bar (by omega) | exact sh_term (by omega) | exact sh_sheet (by omega) | exact sh_items (by omega) | exact sh_sums (by omega)) rfl rfl (c_X12_isExchange (fun q => absurd q c1) (fun _ => aK_i ?_))
    refine wp_if_eq (pc := 9) (tgt := 23) dX12_gain_9 rfl (fun _ => ?_) (fun q => absurd q (by decide))
    refine wp_sipush (pc := 23) (v := -10001) dX12_gain_23 (by decide) ?_
    refine wp_ireturn (pc := 26) dX12_gain_26 rfl (by first | rfl | decide | assumption) ?_
    exact k' _ hI
theorem J_good_m {X : aX} {μ1 : Mm} {Q' : Option Value → Mm → Prop} {i j u : Nat} {p : Int32} {v : Int32} (hI1 : Inv μ1) (c1 : exE μ1.1 (nI i) (nI j) (nI u) p) (hi : i < 4) (hj : j < 4) (hu : u < 64) (hv : (goM μ1.1 i j u p ∧ v = 1) ∨ (¬ goM μ1.1 i j u p ∧ v = 0)) (k' : ∀ μ2, Inv μ2 → Q' (some (.int v)) μ2) : WP X mX12_good 0 (lv_args 0 [.ref 86, .int (nI i), .int (nI j), .int (nI u), .int p]) [] μ1 Q' := by
  rcases hv with ⟨c5, rfl⟩ | ⟨c5, rfl⟩
  · refine wp_aload_n (pc := 0) dX12_good_0 (by first | rfl | assumption | (repeat first | assumption | rfl | refine aG_n ?_ rfl rfl)) ?_
    refine wp_iload_n (pc := 1) dX12_good_1 (by first | rfl | assumption | (repeat first | assumption | rfl | refine aG_n ?_ rfl rfl)) ?_
    refine wp_iload_n (pc := 2) dX12_good_2 (by first | rfl | assumption | (repeat first | assumption | rfl | refine aG_n ?_ rfl rfl)) ?_
    refine wp_iload_n (pc := 3) dX12_good_3 (by first | rfl | assumption | (repeat first | assumption | rfl | refine aG_n ?_ rfl rfl)) ?_
    refine wp_iload (pc := 4) dX12_good_4 (by first | rfl | assumption | (repeat first | assumption | rfl | refine aG_n ?_ rfl rfl)) ?_
    refine wp_cV (pc := 6) dX12_good_6 lk_12_220 rfl (by decide) rfl (by first | rfl | assumption | exact sh_house (by omega) | exact sh_wish (by omega) | exact sh_wor (by omega) | exact sh_bar (by omega) | exact sh_term (by omega) | exact sh_sheet (by omega) | exact sh_items (by omega) | exact sh_sums (by omega)) rfl rfl (c_X12_isExchange (fun _ => aK_i ?_) (fun q => absurd c1 q))
    refine wp_if_ne (pc := 9) (tgt := 16) dX12_good_9 rfl (fun _ => ?_) (fun q => absurd q (by decide))
    refine wp_aload_n (pc := 16) dX12_good_16 (by first | rfl | assumption | (repeat first | assumption | rfl | refine aG_n ?_ rfl rfl)) ?_
    refine wp_iload_n (pc := 17) dX12_good_17 (by first | rfl | assumption | (repeat first | assumption | rfl | refine aG_n ?_ rfl rfl)) ?_
    refine wp_iload_n (pc := 18) dX12_good_18 (by first | rfl | assumption | (repeat first | assumption | rfl | refine aG_n ?_ rfl rfl)) ?_
    refine wp_iload_n (pc := 19) dX12_good_19 (by first | rfl | assumption | (repeat first | assumption | rfl | refine aG_n ?_ rfl rfl)) ?_
    refine wp_iload (pc := 20) dX12_good_20 (by first | rfl | assumption | (repeat first | assumption | rfl | refine aG_n ?_ rfl rfl)) ?_
    refine wp_cV (pc := 22) dX12_good_22 lk_12_230 rfl (by decide) rfl (by first | rfl | assumption | exact sh_house (by omega) | exact sh_wish (by omega) | exact sh_wor (by omega) | exact sh_bar (by omega) | exact sh_term (by omega) | exact sh_sheet (by omega) | exact sh_items (by omega) | exact sh_sums (by omega)) rfl rfl (m_good hI1.2.2.2.1 hi hj hu rfl (fun _ => aK_i ?_) (fun q => absurd c5 q))
    refine wp_if_eq (pc := 25) (tgt := 32) dX12_good_25 rfl (fun q => absurd q (by decide)) (fun _ => ?_)
    refine wp_iconst (pc := 28) (v := 1) dX12_good_28 (by decide) ?_
    refine wp_goto (pc := 29) (tgt := 33) dX12_good_29 rfl ?_
    refine wp_ireturn (pc := 33) dX12_good_33 rfl (by first | rfl | decide | assumption) ?_
    exact k' _ hI1
  · refine wp_aload_n (pc := 0) dX12_good_0 (by first | rfl | assumption | (repeat first | assumption | rfl | refine aG_n ?_ rfl rfl)) ?_
    refine wp_iload_n (pc := 1) dX12_good_1 (by first | rfl | assumption | (repeat first | assumption | rfl | refine aG_n ?_ rfl rfl)) ?_
    refine wp_iload_n (pc := 2) dX12_good_2 (by first | rfl | assumption | (repeat first | assumption | rfl | refine aG_n ?_ rfl rfl)) ?_
    refine wp_iload_n (pc := 3) dX12_good_3 (by first | rfl | assumption | (repeat first | assumption | rfl | refine aG_n ?_ rfl rfl)) ?_
    refine wp_iload (pc := 4) dX12_good_4 (by first | rfl | assumption | (repeat first | assumption | rfl | refine aG_n ?_ rfl rfl)) ?_
    refine wp_cV (pc := 6) dX12_good_6 lk_12_220 rfl (by decide) rfl (by first | rfl | assumption | exact sh_house (by omega) | exact sh_wish (by omega) | exact sh_wor (by omega) | exact sh_bar (by omega) | exact sh_term (by omega) | exact sh_sheet (by omega) | exact sh_items (by omega) | exact sh_sums (by omega)) rfl rfl (c_X12_isExchange (fun _ => aK_i ?_) (fun q => absurd c1 q))
    refine wp_if_ne (pc := 9) (tgt := 16) dX12_good_9 rfl (fun _ => ?_) (fun q => absurd q (by decide))
    refine wp_aload_n (pc := 16) dX12_good_16 (by first | rfl | assumption | (repeat first | assumption | rfl | refine aG_n ?_ rfl rfl)) ?_
    refine wp_iload_n (pc := 17) dX12_good_17 (by first | rfl | assumption | (repeat first | assumption | rfl | refine aG_n ?_ rfl rfl)) ?_
    refine wp_iload_n (pc := 18) dX12_good_18 (by first | rfl | assumption | (repeat first | assumption | rfl | refine aG_n ?_ rfl rfl)) ?_
    refine wp_iload_n (pc := 19) dX12_good_19 (by first | rfl | assumption | (repeat first | assumption | rfl | refine aG_n ?_ rfl rfl)) ?_
    refine wp_iload (pc := 20) dX12_good_20 (by first | rfl | assumption | (repeat first | assumption | rfl | refine aG_n ?_ rfl rfl)) ?_
    refine wp_cV (pc := 22) dX12_good_22 lk_12_230 rfl (by decide) rfl (by first | rfl | assumption | exact sh_house (by omega) | exact sh_wish (by omega) | exact sh_wor (by omega) | exact sh_bar (by omega) | exact sh_term (by omega) | exact sh_sheet (by omega) | exact sh_items (by omega) | exact sh_sums (by omega)) rfl rfl (m_good hI1.2.2.2.1 hi hj hu rfl (fun q => absurd q c5) (fun _ => aK_i ?_))
    refine wp_if_eq (pc := 25) (tgt := 32) dX12_good_25 rfl (fun _ => ?_) (fun q => absurd q (by decide))
    refine wp_iconst (pc := 32) (v := 0) dX12_good_32 (by decide) ?_
    refine wp_ireturn (pc := 33) dX12_good_33 rfl (by first | rfl | decide | assumption) ?_
    exact k' _ hI1
theorem J_good (a b s p : Int32) : Jnt mX11_good mX12_good [.int a, .int b, .int s, .int p] := by
  intro X μ Q hI k
  by_cases c1 : exE μ.1 a b s p
  · obtain ⟨i, j, u, hi, hj, hij, hu, rfl, rfl, rfl, hp, hx⟩ := id c1
    refine wp_aload_n (pc := 0) dX11_good_0 (by first | rfl | assumption | (repeat first | assumption | rfl | refine aG_n ?_ rfl rfl)) ?_
    refine wp_iload_n (pc := 1) dX11_good_1 (by first | rfl | assumption | (repeat first | assumption | rfl | refine aG_n ?_ rfl rfl)) ?_
    refine wp_iload_n (pc := 2) dX11_good_2 (by first | rfl | assumption | (repeat first | assumption | rfl | refine aG_n ?_ rfl rfl)) ?_
    refine wp_iload_n (pc := 3) dX11_good_3 (by first | rfl | assumption | (repeat first | assumption | rfl | refine aG_n ?_ rfl rfl)) ?_
    refine wp_iload (pc := 4) dX11_good_4 (by first | rfl | assumption | (repeat first | assumption | rfl | refine aG_n ?_ rfl rfl)) ?_
    refine wp_cV (pc := 6) dX11_good_6 lk_11_168 rfl (by decide) rfl (by first | rfl | assumption | exact sh_house (by omega) | exact sh_wish (by omega) | exact sh_wor (by omega) | exact sh_bar (by omega) | exact sh_term (by omega) | exact sh_sheet (by omega) | exact sh_items (by omega) | exact sh_sums (by omega)) rfl rfl (c_X11_isExchange hI.1 (fun _ => aK_i ?_) (fun q => absurd c1 q))
    refine wp_if_ne (pc := 9) (tgt := 14) dX11_good_9 rfl (fun _ => ?_) (fun q => absurd q (by decide))
    refine wp_aload_n (pc := 14) dX11_good_14 (by first | rfl | assumption | (repeat first | assumption | rfl | refine aG_n ?_ rfl rfl)) ?_
    refine wp_getR (pc := 15) dX11_good_15 fl_11_80 (by first | rfl | assumption | exact sh_house (by omega) | exact sh_wish (by omega) | exact sh_wor (by omega) | exact sh_bar (by omega) | exact sh_term (by omega) | exact sh_sheet (by omega) | exact sh_items (by omega) | exact sh_sums (by omega)) rfl ?_
    refine wp_aload_n (pc := 18) dX11_good_18 (by first | rfl | assumption | (repeat first | assumption | rfl | refine aG_n ?_ rfl rfl)) ?_
    refine wp_getR (pc := 19) dX11_good_19 fl_11_11 (by first | rfl | assumption | exact sh_house (by omega) | exact sh_wish (by omega) | exact sh_wor (by omega) | exact sh_bar (by omega) | exact sh_term (by omega) | exact sh_sheet (by omega) | exact sh_items (by omega) | exact sh_sums (by omega)) rfl ?_
    refine wp_iload_n (pc := 22) dX11_good_22 (by first | rfl | assumption | (repeat first | assumption | rfl | refine aG_n ?_ rfl rfl)) ?_
    refine wp_aald (pc := 23) dX11_good_23 (by first | rfl | assumption | exact sh_house (by omega) | exact sh_wish (by omega) | exact sh_wor (by omega) | exact sh_bar (by omega) | exact sh_term (by omega) | exact sh_sheet (by omega) | exact sh_items (by omega) | exact sh_sums (by omega)) (vp_in_nI (by omega) (by decide)) (by decide) (el_house (by omega)) ?_
    refine wp_aload_n (pc := 24) dX11_good_24 (by first | rfl | assumption | (repeat first | assumption | rfl | refine aG_n ?_ rfl rfl)) ?_
    refine wp_getR (pc := 25) dX11_good_25 fl_11_11 (by first | rfl | assumption | exact sh_house (by omega) | exact sh_wish (by omega) | exact sh_wor (by omega) | exact sh_bar (by omega) | exact sh_term (by omega) | exact sh_sheet (by omega) | exact sh_items (by omega) | exact sh_sums (by omega)) rfl ?_
    refine wp_iload_n (pc := 28) dX11_good_28 (by first | rfl | assumption | (repeat first | assumption | rfl | refine aG_n ?_ rfl rfl)) ?_
    refine wp_aald (pc := 29) dX11_good_29 (by first | rfl | assumption | exact sh_house (by omega) | exact sh_wish (by omega) | exact sh_wor (by omega) | exact sh_bar (by omega) | exact sh_term (by omega) | exact sh_sheet (by omega) | exact sh_items (by omega) | exact sh_sums (by omega)) (vp_in_nI (by omega) (by decide)) (by decide) (el_house (by omega)) ?_
    refine wp_cV (pc := 30) dX11_good_30 lk_11_172 rfl (by decide) rfl (by first | rfl | assumption | exact sh_house (by omega) | exact sh_wish (by omega) | exact sh_wor (by omega) | exact sh_bar (by omega) | exact sh_term (by omega) | exact sh_sheet (by omega) | exact sh_items (by omega) | exact sh_sums (by omega)) rfl rfl (c_take71 hI hi hj (fun μ1 hI1 e1 e2 et hPr e3 e4 => aK_v ?_))
    refine wp_aload_n (pc := 33) dX11_good_33 (by first | rfl | assumption | (repeat first | assumption | rfl | refine aG_n ?_ rfl rfl)) ?_
    refine wp_getR (pc := 34) dX11_good_34 fl_11_80 (by first | rfl | assumption | exact sh_house (by omega) | exact sh_wish (by omega) | exact sh_wor (by omega) | exact sh_bar (by omega) | exact sh_term (by omega) | exact sh_sheet (by omega) | exact sh_items (by omega) | exact sh_sums (by omega)) rfl ?_
    refine wp_iload_n (pc := 37) dX11_good_37 (by first | rfl | assumption | (repeat first | assumption | rfl | refine aG_n ?_ rfl rfl)) ?_
    refine wp_iload (pc := 38) dX11_good_38 (by first | rfl | assumption | (repeat first | assumption | rfl | refine aG_n ?_ rfl rfl)) ?_
    refine wp_cV (pc := 40) dX11_good_40 lk_11_179 rfl (by decide) rfl (by first | rfl | assumption | exact sh_house (by omega) | exact sh_wish (by omega) | exact sh_wor (by omega) | exact sh_bar (by omega) | exact sh_term (by omega) | exact sh_sheet (by omega) | exact sh_items (by omega) | exact sh_sums (by omega)) rfl rfl (c_X4_isGood hPr hu (fun c40_1 => aK_i ?_) (fun c40_1 => aK_i ?_))
    · refine wp_cS (pc := 43) dX11_good_43 lk_11_148 rfl rfl rfl ?_
      refine wp_iload_n (pc := 0) dX11_oneIf_0 (by first | rfl | assumption | (repeat first | assumption | rfl | refine aG_n ?_ rfl rfl)) ?_
      refine wp_if_eq (pc := 1) (tgt := 8) dX11_oneIf_1 rfl (fun q => absurd q (by decide)) (fun _ => ?_)
      refine wp_iconst (pc := 4) (v := 1) dX11_oneIf_4 (by decide) ?_
      refine wp_goto (pc := 5) (tgt := 9) dX11_oneIf_5 rfl ?_
      refine wp_iretK (pc := 9) dX11_oneIf_9 rfl (by first | rfl | decide | assumption) ?_
      refine wp_ireturn (pc := 46) dX11_good_46 rfl (by first | rfl | decide | assumption) ?_
      refine k _ _ (fun Q' k' => ?_)
      rw [exE_c et] at c1
      exact J_good_m hI1 c1 hi hj hu (Or.inl ⟨(goB_i e3 e4).mp (by assumption), rfl⟩) k'
    · refine wp_cS (pc := 43) dX11_good_43 lk_11_148 rfl rfl rfl ?_
      refine wp_iload_n (pc := 0) dX11_oneIf_0 (by first | rfl | assumption | (repeat first | assumption | rfl | refine aG_n ?_ rfl rfl)) ?_
      refine wp_if_eq (pc := 1) (tgt := 8) dX11_oneIf_1 rfl (fun _ => ?_) (fun q => absurd q (by decide))
      refine wp_iconst (pc := 8) (v := 0) dX11_oneIf_8 (by decide) ?_
      refine wp_iretK (pc := 9) dX11_oneIf_9 rfl (by first | rfl | decide | assumption) ?_
      refine wp_ireturn (pc := 46) dX11_good_46 rfl (by first | rfl | decide | assumption) ?_
      refine k _ _ (fun Q' k' => ?_)
      rw [exE_c et] at c1
      exact J_good_m hI1 c1 hi hj hu (Or.inr ⟨fun z => absurd ((goB_i e3 e4).mpr z) (by assumption), rfl⟩) k'
  · refine wp_aload_n (pc := 0) dX11_good_0 (by first | rfl | assumption | (repeat first | assumption | rfl | refine aG_n ?_ rfl rfl)) ?_
    refine wp_iload_n (pc := 1) dX11_good_1 (by first | rfl | assumption | (repeat first | assumption | rfl | refine aG_n ?_ rfl rfl)) ?_
    refine wp_iload_n (pc := 2) dX11_good_2 (by first | rfl | assumption | (repeat first | assumption | rfl | refine aG_n ?_ rfl rfl)) ?_
    refine wp_iload_n (pc := 3) dX11_good_3 (by first | rfl | assumption | (repeat first | assumption | rfl | refine aG_n ?_ rfl rfl)) ?_
    refine wp_iload (pc := 4) dX11_good_4 (by first | rfl | assumption | (repeat first | assumption | rfl | refine aG_n ?_ rfl rfl)) ?_
    refine wp_cV (pc := 6) dX11_good_6 lk_11_168 rfl (by decide) rfl (by first | rfl | assumption | exact sh_house (by omega) | exact sh_wish (by omega) | exact sh_wor (by omega) | exact sh_bar (by omega) | exact sh_term (by omega) | exact sh_sheet (by omega) | exact sh_items (by omega) | exact sh_sums (by omega)) rfl rfl (c_X11_isExchange hI.1 (fun q => absurd q c1) (fun _ => aK_i ?_))
    refine wp_if_ne (pc := 9) (tgt := 14) dX11_good_9 rfl (fun q => absurd q (by decide)) (fun _ => ?_)
    refine wp_iconst (pc := 12) (v := -1) dX11_good_12 (by decide) ?_
    refine wp_ireturn (pc := 13) dX11_good_13 rfl (by first | rfl | decide | assumption) ?_
    refine k _ _ (fun Q' k' => ?_)
    refine wp_aload_n (pc := 0) dX12_good_0 (by first | rfl | assumption | (repeat first | assumption | rfl | refine aG_n ?_ rfl rfl)) ?_
    refine wp_iload_n (pc := 1) dX12_good_1 (by first | rfl | assumption | (repeat first | assumption | rfl | refine aG_n ?_ rfl rfl)) ?_
    refine wp_iload_n (pc := 2) dX12_good_2 (by first | rfl | assumption | (repeat first | assumption | rfl | refine aG_n ?_ rfl rfl)) ?_
    refine wp_iload_n (pc := 3) dX12_good_3 (by first | rfl | assumption | (repeat first | assumption | rfl | refine aG_n ?_ rfl rfl)) ?_
    refine wp_iload (pc := 4) dX12_good_4 (by first | rfl | assumption | (repeat first | assumption | rfl | refine aG_n ?_ rfl rfl)) ?_
    refine wp_cV (pc := 6) dX12_good_6 lk_12_220 rfl (by decide) rfl (by first | rfl | assumption | exact sh_house (by omega) | exact sh_wish (by omega) | exact sh_wor (by omega) | exact sh_bar (by omega) | exact sh_term (by omega) | exact sh_sheet (by omega) | exact sh_items (by omega) | exact sh_sums (by omega)) rfl rfl (c_X12_isExchange (fun q => absurd q c1) (fun _ => aK_i ?_))
    refine wp_if_ne (pc := 9) (tgt := 16) dX12_good_9 rfl (fun q => absurd q (by decide)) (fun _ => ?_)
    refine wp_iconst (pc := 12) (v := -1) dX12_good_12 (by decide) ?_
    refine wp_goto (pc := 13) (tgt := 33) dX12_good_13 rfl ?_
    refine wp_ireturn (pc := 33) dX12_good_33 rfl (by first | rfl | decide | assumption) ?_
    exact k' _ hI
/-! best -/
noncomputable def cI {α : Type} (p : Prop) (a b : α) : α := @ite α p (Classical.propDecidable p) a b
theorem cI_y {α : Type} {p : Prop} {a b : α} (h : p) : cI p a b = a := if_pos h
theorem cI_n {α : Type} {p : Prop} {a b : α} (h : ¬ p) : cI p a b = b := if_neg h
noncomputable def bs (ok : Nat → Prop) (sm : Nat → Int32) : Nat → Int32 × Int32
  | 0 => (-1, 0)
  | n + 1 => cI (ok n ∧ ((bs ok sm n).1 < 0 ∨ (bs ok sm n).2 < sm n)) (nI n, sm n) (bs ok sm n)
theorem bs_y {ok : Nat → Prop} {sm : Nat → Int32} {n : Nat} (h : ok n ∧ ((bs ok sm n).1 < 0 ∨ (bs ok sm n).2 < sm n)) : bs ok sm (n + 1) = (nI n, sm n) := cI_y h
theorem bs_n {ok : Nat → Prop} {sm : Nat → Int32} {n : Nat} (h : ¬ (ok n ∧ ((bs ok sm n).1 < 0 ∨ (bs ok sm n).2 < sm n))) : bs ok sm (n + 1) = bs ok sm n := cI_n h
theorem bs_is (ok : Nat → Prop) (sm : Nat → Int32) : ∀ n, (bs ok sm n).1 = -1 ∨ ∃ u, u < n ∧ bs ok sm n = (nI u, sm u)
  | 0 => Or.inl rfl
  | n + 1 => by
    by_cases h : ok n ∧ ((bs ok sm n).1 < 0 ∨ (bs ok sm n).2 < sm n)
    · rw [bs_y h]; exact Or.inr ⟨n, by omega, rfl⟩
    · rw [bs_n h]
      rcases bs_is ok sm n with z | ⟨u, hu, z⟩
      · exact Or.inl z
      · exact Or.inr ⟨u, by omega, z⟩
def okP (M : MM) (t w : Nat → Nat) (n : Nat) : Prop := nI n &&& ((nI (t 0) ||| nI (t 1)) ^^^ (-1)) = 0 ∧ opB M t w n
section BEST
variable {X : aX} {μ : Mm} {Q : Option Value → Mm → Prop} {P : Nat} {t w : Nat → Nat}
theorem l_bestSet (h : Pr μ P t w) (k : Q (some (.int (bs (okP μ.1 t w) (fun n => gnd μ.1 t w 0 n + gnd μ.1 t w 1 n) 64).1)) μ) : ∀ (f n : Nat), n + f = 64 → ∀ L : aL, aL_get L 0 = some (.ref P) → aL_get L 1 = some (.int (bs (okP μ.1 t w) (fun n => gnd μ.1 t w 0 n + gnd μ.1 t w 1 n) n).1) → aL_get L 2 = some (.int (bs (okP μ.1 t w) (fun n => gnd μ.1 t w 0 n + gnd μ.1 t w 1 n) n).2) → aL_get L 3 = some (.int (nI n)) → WP X mX4_bestSet 6 L [] μ Q
  | 0, n, hn, L, g0, g1, g2, g3 => by
    have hP := h.1
    obtain rfl : n = 64 := by omega
    refine wp_iload_n (pc := 6) dX4_bestSet_6 (by first | rfl | assumption | (repeat first | assumption | rfl | refine aG_n ?_ rfl rfl)) ?_
    refine wp_bipush (pc := 7) (v := 64) dX4_bestSet_7 (by decide) ?_
    refine wp_icmp_ge (pc := 9) (tgt := 55) dX4_bestSet_9 rfl (fun _ => ?_) (fun q => absurd (nI_le (a := 64) (b := 64) (by omega) (by omega)) q)
    refine wp_iload_n (pc := 55) dX4_bestSet_55 (by first | rfl | assumption | (repeat first | assumption | rfl | refine aG_n ?_ rfl rfl)) ?_
    refine wp_ireturn (pc := 56) dX4_bestSet_56 rfl (by first | rfl | decide | assumption) ?_
    exact k
  | f + 1, n, hn, L, g0, g1, g2, g3 => by
    have hP := h.1
    by_cases c1 : nI n &&& ((nI (t 0) ||| nI (t 1)) ^^^ (-1)) = 0
    · by_cases c2 : opB μ.1 t w n
      · by_cases c3 : (bs (okP μ.1 t w) (fun n => gnd μ.1 t w 0 n + gnd μ.1 t w 1 n) n).1 < 0
        · have e := bs_y (sm := fun n => gnd μ.1 t w 0 n + gnd μ.1 t w 1 n) (show okP μ.1 t w n ∧ _ from ⟨⟨c1, c2⟩, Or.inl c3⟩)
          refine wp_iload_n (pc := 6) dX4_bestSet_6 (by first | rfl | assumption | (repeat first | assumption | rfl | refine aG_n ?_ rfl rfl)) ?_
          refine wp_bipush (pc := 7) (v := 64) dX4_bestSet_7 (by decide) ?_
          refine wp_icmp_ge (pc := 9) (tgt := 55) dX4_bestSet_9 rfl (fun q => absurd q (nI_ge (a := n) (b := 64) (by omega) (by omega))) (fun _ => ?_)
          refine wp_aload_n (pc := 12) dX4_bestSet_12 (by first | rfl | assumption | (repeat first | assumption | rfl | refine aG_n ?_ rfl rfl)) ?_
          refine wp_iload_n (pc := 13) dX4_bestSet_13 (by first | rfl | assumption | (repeat first | assumption | rfl | refine aG_n ?_ rfl rfl)) ?_
          refine wp_cV (pc := 14) dX4_bestSet_14 lk_4_76 rfl (by decide) rfl (by first | rfl | assumption | exact sh_house (by omega) | exact sh_wish (by omega) | exact sh_wor (by omega) | exact sh_bar (by omega) | exact sh_term (by omega) | exact sh_sheet (by omega) | exact sh_items (by omega) | exact sh_sums (by omega)) rfl rfl (c_X4_isInPool h (fun _ => aK_i ?_) (fun q => absurd c1 q))
          refine wp_if_eq (pc := 17) (tgt := 49) dX4_bestSet_17 rfl (fun q => absurd q (by decide)) (fun _ => ?_)
          refine wp_aload_n (pc := 20) dX4_bestSet_20 (by first | rfl | assumption | (repeat first | assumption | rfl | refine aG_n ?_ rfl rfl)) ?_
          refine wp_iload_n (pc := 21) dX4_bestSet_21 (by first | rfl | assumption | (repeat first | assumption | rfl | refine aG_n ?_ rfl rfl)) ?_
          refine wp_cV (pc := 22) dX4_bestSet_22 lk_4_68 rfl (by decide) rfl (by first | rfl | assumption | exact sh_house (by omega) | exact sh_wish (by omega) | exact sh_wor (by omega) | exact sh_bar (by omega) | exact sh_term (by omega) | exact sh_sheet (by omega) | exact sh_items (by omega) | exact sh_sums (by omega)) rfl rfl (c_X4_isOpenToBoth h (show n < 64 by omega) (fun _ => aK_i ?_) (fun q => absurd c2 q))
          refine wp_if_eq (pc := 25) (tgt := 49) dX4_bestSet_25 rfl (fun q => absurd q (by decide)) (fun _ => ?_)
          refine wp_iload_n (pc := 28) dX4_bestSet_28 (by first | rfl | assumption | (repeat first | assumption | rfl | refine aG_n ?_ rfl rfl)) ?_
          refine wp_if_lt (pc := 29) (tgt := 41) dX4_bestSet_29 rfl (fun _ => ?_) (fun q => absurd c3 q)
          refine wp_iload_n (pc := 41) dX4_bestSet_41 (by first | rfl | assumption | (repeat first | assumption | rfl | refine aG_n ?_ rfl rfl)) ?_
          refine wp_istore_n (pc := 42) dX4_bestSet_42 (by decide) ?_
          refine wp_aload_n (pc := 43) dX4_bestSet_43 (by first | rfl | assumption | (repeat first | assumption | rfl | refine aG_n ?_ rfl rfl)) ?_
          refine wp_iload_n (pc := 44) dX4_bestSet_44 (by first | rfl | assumption | (repeat first | assumption | rfl | refine aG_n ?_ rfl rfl)) ?_
          refine wp_cV (pc := 45) dX4_bestSet_45 lk_4_79 rfl (by decide) rfl (by first | rfl | assumption | exact sh_house (by omega) | exact sh_wish (by omega) | exact sh_wor (by omega) | exact sh_bar (by omega) | exact sh_term (by omega) | exact sh_sheet (by omega) | exact sh_items (by omega) | exact sh_sums (by omega)) rfl rfl (c_X4_sumOfGains h (show n < 64 by omega) (aK_i ?_))
          refine wp_istore_n (pc := 48) dX4_bestSet_48 (by decide) ?_
          refine wp_iinc (pc := 49) dX4_bestSet_49 (by decide) (by first | rfl | assumption | (repeat first | assumption | rfl | refine aG_n ?_ rfl rfl)) rfl ?_
          refine wp_goto (pc := 52) (tgt := 6) dX4_bestSet_52 rfl ?_
          exact l_bestSet h k f (n + 1) (by omega) _ (by first | rfl | assumption | (repeat first | assumption | rfl | refine aG_n ?_ rfl rfl)) (by rw [e]; first | rfl | assumption | (repeat first | assumption | rfl | refine aG_n ?_ rfl rfl)) (by rw [e]; first | rfl | assumption | (repeat first | assumption | rfl | refine aG_n ?_ rfl rfl)) (by rw [← nI_i1]; first | rfl | assumption | (repeat first | assumption | rfl | refine aG_n ?_ rfl rfl))
        · by_cases c4 : (bs (okP μ.1 t w) (fun n => gnd μ.1 t w 0 n + gnd μ.1 t w 1 n) n).2 < gnd μ.1 t w 0 n + gnd μ.1 t w 1 n
          · have e := bs_y (sm := fun n => gnd μ.1 t w 0 n + gnd μ.1 t w 1 n) (show okP μ.1 t w n ∧ _ from ⟨⟨c1, c2⟩, Or.inr c4⟩)
            refine wp_iload_n (pc := 6) dX4_bestSet_6 (by first | rfl | assumption | (repeat first | assumption | rfl | refine aG_n ?_ rfl rfl)) ?_
            refine wp_bipush (pc := 7) (v := 64) dX4_bestSet_7 (by decide) ?_
            refine wp_icmp_ge (pc := 9) (tgt := 55) dX4_bestSet_9 rfl (fun q => absurd q (nI_ge (a := n) (b := 64) (by omega) (by omega))) (fun _ => ?_)
            refine wp_aload_n (pc := 12) dX4_bestSet_12 (by first | rfl | assumption | (repeat first | assumption | rfl | refine aG_n ?_ rfl rfl)) ?_
            refine wp_iload_n (pc := 13) dX4_bestSet_13 (by first | rfl | assumption | (repeat first | assumption | rfl | refine aG_n ?_ rfl rfl)) ?_
            refine wp_cV (pc := 14) dX4_bestSet_14 lk_4_76 rfl (by decide) rfl (by first | rfl | assumption | exact sh_house (by omega) | exact sh_wish (by omega) | exact sh_wor (by omega) | exact sh_bar (by omega) | exact sh_term (by omega) | exact sh_sheet (by omega) | exact sh_items (by omega) | exact sh_sums (by omega)) rfl rfl (c_X4_isInPool h (fun _ => aK_i ?_) (fun q => absurd c1 q))
            refine wp_if_eq (pc := 17) (tgt := 49) dX4_bestSet_17 rfl (fun q => absurd q (by decide)) (fun _ => ?_)
            refine wp_aload_n (pc := 20) dX4_bestSet_20 (by first | rfl | assumption | (repeat first | assumption | rfl | refine aG_n ?_ rfl rfl)) ?_
            refine wp_iload_n (pc := 21) dX4_bestSet_21 (by first | rfl | assumption | (repeat first | assumption | rfl | refine aG_n ?_ rfl rfl)) ?_
            refine wp_cV (pc := 22) dX4_bestSet_22 lk_4_68 rfl (by decide) rfl (by first | rfl | assumption | exact sh_house (by omega) | exact sh_wish (by omega) | exact sh_wor (by omega) | exact sh_bar (by omega) | exact sh_term (by omega) | exact sh_sheet (by omega) | exact sh_items (by omega) | exact sh_sums (by omega)) rfl rfl (c_X4_isOpenToBoth h (show n < 64 by omega) (fun _ => aK_i ?_) (fun q => absurd c2 q))
            refine wp_if_eq (pc := 25) (tgt := 49) dX4_bestSet_25 rfl (fun q => absurd q (by decide)) (fun _ => ?_)
            refine wp_iload_n (pc := 28) dX4_bestSet_28 (by first | rfl | assumption | (repeat first | assumption | rfl | refine aG_n ?_ rfl rfl)) ?_
            refine wp_if_lt (pc := 29) (tgt := 41) dX4_bestSet_29 rfl (fun q => absurd q c3) (fun _ => ?_)
            refine wp_aload_n (pc := 32) dX4_bestSet_32 (by first | rfl | assumption | (repeat first | assumption | rfl | refine aG_n ?_ rfl rfl)) ?_
            refine wp_iload_n (pc := 33) dX4_bestSet_33 (by first | rfl | assumption | (repeat first | assumption | rfl | refine aG_n ?_ rfl rfl)) ?_
            refine wp_cV (pc := 34) dX4_bestSet_34 lk_4_79 rfl (by decide) rfl (by first | rfl | assumption | exact sh_house (by omega) | exact sh_wish (by omega) | exact sh_wor (by omega) | exact sh_bar (by omega) | exact sh_term (by omega) | exact sh_sheet (by omega) | exact sh_items (by omega) | exact sh_sums (by omega)) rfl rfl (c_X4_sumOfGains h (show n < 64 by omega) (aK_i ?_))
            refine wp_iload_n (pc := 37) dX4_bestSet_37 (by first | rfl | assumption | (repeat first | assumption | rfl | refine aG_n ?_ rfl rfl)) ?_
            refine wp_icmp_le (pc := 38) (tgt := 49) dX4_bestSet_38 rfl (fun q => absurd q (fun z => i_nle c4 z)) (fun _ => ?_)
            refine wp_iload_n (pc := 41) dX4_bestSet_41 (by first | rfl | assumption | (repeat first | assumption | rfl | refine aG_n ?_ rfl rfl)) ?_
            refine wp_istore_n (pc := 42) dX4_bestSet_42 (by decide) ?_
            refine wp_aload_n (pc := 43) dX4_bestSet_43 (by first | rfl | assumption | (repeat first | assumption | rfl | refine aG_n ?_ rfl rfl)) ?_
            refine wp_iload_n (pc := 44) dX4_bestSet_44 (by first | rfl | assumption | (repeat first | assumption | rfl | refine aG_n ?_ rfl rfl)) ?_
            refine wp_cV (pc := 45) dX4_bestSet_45 lk_4_79 rfl (by decide) rfl (by first | rfl | assumption | exact sh_house (by omega) | exact sh_wish (by omega) | exact sh_wor (by omega) | exact sh_bar (by omega) | exact sh_term (by omega) | exact sh_sheet (by omega) | exact sh_items (by omega) | exact sh_sums (by omega)) rfl rfl (c_X4_sumOfGains h (show n < 64 by omega) (aK_i ?_))
            refine wp_istore_n (pc := 48) dX4_bestSet_48 (by decide) ?_
            refine wp_iinc (pc := 49) dX4_bestSet_49 (by decide) (by first | rfl | assumption | (repeat first | assumption | rfl | refine aG_n ?_ rfl rfl)) rfl ?_
            refine wp_goto (pc := 52) (tgt := 6) dX4_bestSet_52 rfl ?_
            exact l_bestSet h k f (n + 1) (by omega) _ (by first | rfl | assumption | (repeat first | assumption | rfl | refine aG_n ?_ rfl rfl)) (by rw [e]; first | rfl | assumption | (repeat first | assumption | rfl | refine aG_n ?_ rfl rfl)) (by rw [e]; first | rfl | assumption | (repeat first | assumption | rfl | refine aG_n ?_ rfl rfl)) (by rw [← nI_i1]; first | rfl | assumption | (repeat first | assumption | rfl | refine aG_n ?_ rfl rfl))
          · have e := bs_n (ok := okP μ.1 t w) (sm := fun n => gnd μ.1 t w 0 n + gnd μ.1 t w 1 n) (n := n) (fun z => z.2.elim c3 c4)
            refine wp_iload_n (pc := 6) dX4_bestSet_6 (by first | rfl | assumption | (repeat first | assumption | rfl | refine aG_n ?_ rfl rfl)) ?_
            refine wp_bipush (pc := 7) (v := 64) dX4_bestSet_7 (by decide) ?_
            refine wp_icmp_ge (pc := 9) (tgt := 55) dX4_bestSet_9 rfl (fun q => absurd q (nI_ge (a := n) (b := 64) (by omega) (by omega))) (fun _ => ?_)
            refine wp_aload_n (pc := 12) dX4_bestSet_12 (by first | rfl | assumption | (repeat first | assumption | rfl | refine aG_n ?_ rfl rfl)) ?_
            refine wp_iload_n (pc := 13) dX4_bestSet_13 (by first | rfl | assumption | (repeat first | assumption | rfl | refine aG_n ?_ rfl rfl)) ?_
            refine wp_cV (pc := 14) dX4_bestSet_14 lk_4_76 rfl (by decide) rfl (by first | rfl | assumption | exact sh_house (by omega) | exact sh_wish (by omega) | exact sh_wor (by omega) | exact sh_bar (by omega) | exact sh_term (by omega) | exact sh_sheet (by omega) | exact sh_items (by omega) | exact sh_sums (by omega)) rfl rfl (c_X4_isInPool h (fun _ => aK_i ?_) (fun q => absurd c1 q))
            refine wp_if_eq (pc := 17) (tgt := 49) dX4_bestSet_17 rfl (fun q => absurd q (by decide)) (fun _ => ?_)
            refine wp_aload_n (pc := 20) dX4_bestSet_20 (by first | rfl | assumption | (repeat first | assumption | rfl | refine aG_n ?_ rfl rfl)) ?_
            refine wp_iload_n (pc := 21) dX4_bestSet_21 (by first | rfl | assumption | (repeat first | assumption | rfl | refine aG_n ?_ rfl rfl)) ?_
            refine wp_cV (pc := 22) dX4_bestSet_22 lk_4_68 rfl (by decide) rfl (by first | rfl | assumption | exact sh_house (by omega) | exact sh_wish (by omega) | exact sh_wor (by omega) | exact sh_bar (by omega) | exact sh_term (by omega) | exact sh_sheet (by omega) | exact sh_items (by omega) | exact sh_sums (by omega)) rfl rfl (c_X4_isOpenToBoth h (show n < 64 by omega) (fun _ => aK_i ?_) (fun q => absurd c2 q))
            refine wp_if_eq (pc := 25) (tgt := 49) dX4_bestSet_25 rfl (fun q => absurd q (by decide)) (fun _ => ?_)
            refine wp_iload_n (pc := 28) dX4_bestSet_28 (by first | rfl | assumption | (repeat first | assumption | rfl | refine aG_n ?_ rfl rfl)) ?_
            refine wp_if_lt (pc := 29) (tgt := 41) dX4_bestSet_29 rfl (fun q => absurd q c3) (fun _ => ?_)
            refine wp_aload_n (pc := 32) dX4_bestSet_32 (by first | rfl | assumption | (repeat first | assumption | rfl | refine aG_n ?_ rfl rfl)) ?_
            refine wp_iload_n (pc := 33) dX4_bestSet_33 (by first | rfl | assumption | (repeat first | assumption | rfl | refine aG_n ?_ rfl rfl)) ?_
            refine wp_cV (pc := 34) dX4_bestSet_34 lk_4_79 rfl (by decide) rfl (by first | rfl | assumption | exact sh_house (by omega) | exact sh_wish (by omega) | exact sh_wor (by omega) | exact sh_bar (by omega) | exact sh_term (by omega) | exact sh_sheet (by omega) | exact sh_items (by omega) | exact sh_sums (by omega)) rfl rfl (c_X4_sumOfGains h (show n < 64 by omega) (aK_i ?_))
            refine wp_iload_n (pc := 37) dX4_bestSet_37 (by first | rfl | assumption | (repeat first | assumption | rfl | refine aG_n ?_ rfl rfl)) ?_
            refine wp_icmp_le (pc := 38) (tgt := 49) dX4_bestSet_38 rfl (fun _ => ?_) (fun q => absurd (i_nlt c4) q)
            refine wp_iinc (pc := 49) dX4_bestSet_49 (by decide) (by first | rfl | assumption | (repeat first | assumption | rfl | refine aG_n ?_ rfl rfl)) rfl ?_
            refine wp_goto (pc := 52) (tgt := 6) dX4_bestSet_52 rfl ?_
            exact l_bestSet h k f (n + 1) (by omega) _ (by first | rfl | assumption | (repeat first | assumption | rfl | refine aG_n ?_ rfl rfl)) (by rw [e]; first | rfl | assumption | (repeat first | assumption | rfl | refine aG_n ?_ rfl rfl)) (by rw [e]; first | rfl | assumption | (repeat first | assumption | rfl | refine aG_n ?_ rfl rfl)) (by rw [← nI_i1]; first | rfl | assumption | (repeat first | assumption | rfl | refine aG_n ?_ rfl rfl))
      · have e := bs_n (ok := okP μ.1 t w) (sm := fun n => gnd μ.1 t w 0 n + gnd μ.1 t w 1 n) (n := n) (fun z => c2 z.1.2)
        refine wp_iload_n (pc := 6) dX4_bestSet_6 (by first | rfl | assumption | (repeat first | assumption | rfl | refine aG_n ?_ rfl rfl)) ?_
        refine wp_bipush (pc := 7) (v := 64) dX4_bestSet_7 (by decide) ?_
        refine wp_icmp_ge (pc := 9) (tgt := 55) dX4_bestSet_9 rfl (fun q => absurd q (nI_ge (a := n) (b := 64) (by omega) (by omega))) (fun _ => ?_)
        refine wp_aload_n (pc := 12) dX4_bestSet_12 (by first | rfl | assumption | (repeat first | assumption | rfl | refine aG_n ?_ rfl rfl)) ?_
        refine wp_iload_n (pc := 13) dX4_bestSet_13 (by first | rfl | assumption | (repeat first | assumption | rfl | refine aG_n ?_ rfl rfl)) ?_
        refine wp_cV (pc := 14) dX4_bestSet_14 lk_4_76 rfl (by decide) rfl (by first | rfl | assumption | exact sh_house (by omega) | exact sh_wish (by omega) | exact sh_wor (by omega) | exact sh_bar (by omega) | exact sh_term (by omega) | exact sh_sheet (by omega) | exact sh_items (by omega) | exact sh_sums (by omega)) rfl rfl (c_X4_isInPool h (fun _ => aK_i ?_) (fun q => absurd c1 q))
        refine wp_if_eq (pc := 17) (tgt := 49) dX4_bestSet_17 rfl (fun q => absurd q (by decide)) (fun _ => ?_)
        refine wp_aload_n (pc := 20) dX4_bestSet_20 (by first | rfl | assumption | (repeat first | assumption | rfl | refine aG_n ?_ rfl rfl)) ?_
        refine wp_iload_n (pc := 21) dX4_bestSet_21 (by first | rfl | assumption | (repeat first | assumption | rfl | refine aG_n ?_ rfl rfl)) ?_
        refine wp_cV (pc := 22) dX4_bestSet_22 lk_4_68 rfl (by decide) rfl (by first | rfl | assumption | exact sh_house (by omega) | exact sh_wish (by omega) | exact sh_wor (by omega) | exact sh_bar (by omega) | exact sh_term (by omega) | exact sh_sheet (by omega) | exact sh_items (by omega) | exact sh_sums (by omega)) rfl rfl (c_X4_isOpenToBoth h (show n < 64 by omega) (fun q => absurd q c2) (fun _ => aK_i ?_))
        refine wp_if_eq (pc := 25) (tgt := 49) dX4_bestSet_25 rfl (fun _ => ?_) (fun q => absurd q (by decide))
        refine wp_iinc (pc := 49) dX4_bestSet_49 (by decide) (by first | rfl | assumption | (repeat first | assumption | rfl | refine aG_n ?_ rfl rfl)) rfl ?_
        refine wp_goto (pc := 52) (tgt := 6) dX4_bestSet_52 rfl ?_
        exact l_bestSet h k f (n + 1) (by omega) _ (by first | rfl | assumption | (repeat first | assumption | rfl | refine aG_n ?_ rfl rfl)) (by rw [e]; first | rfl | assumption | (repeat first | assumption | rfl | refine aG_n ?_ rfl rfl)) (by rw [e]; first | rfl | assumption | (repeat first | assumption | rfl | refine aG_n ?_ rfl rfl)) (by rw [← nI_i1]; first | rfl | assumption | (repeat first | assumption | rfl | refine aG_n ?_ rfl rfl))
    · have e := bs_n (ok := okP μ.1 t w) (sm := fun n => gnd μ.1 t w 0 n + gnd μ.1 t w 1 n) (n := n) (fun z => c1 z.1.1)
      refine wp_iload_n (pc := 6) dX4_bestSet_6 (by first | rfl | assumption | (repeat first | assumption | rfl | refine aG_n ?_ rfl rfl)) ?_
      refine wp_bipush (pc := 7) (v := 64) dX4_bestSet_7 (by decide) ?_
      refine wp_icmp_ge (pc := 9) (tgt := 55) dX4_bestSet_9 rfl (fun q => absurd q (nI_ge (a := n) (b := 64) (by omega) (by omega))) (fun _ => ?_)
      refine wp_aload_n (pc := 12) dX4_bestSet_12 (by first | rfl | assumption | (repeat first | assumption | rfl | refine aG_n ?_ rfl rfl)) ?_
      refine wp_iload_n (pc := 13) dX4_bestSet_13 (by first | rfl | assumption | (repeat first | assumption | rfl | refine aG_n ?_ rfl rfl)) ?_
      refine wp_cV (pc := 14) dX4_bestSet_14 lk_4_76 rfl (by decide) rfl (by first | rfl | assumption | exact sh_house (by omega) | exact sh_wish (by omega) | exact sh_wor (by omega) | exact sh_bar (by omega) | exact sh_term (by omega) | exact sh_sheet (by omega) | exact sh_items (by omega) | exact sh_sums (by omega)) rfl rfl (c_X4_isInPool h (fun q => absurd q c1) (fun _ => aK_i ?_))
      refine wp_if_eq (pc := 17) (tgt := 49) dX4_bestSet_17 rfl (fun _ => ?_) (fun q => absurd q (by decide))
      refine wp_iinc (pc := 49) dX4_bestSet_49 (by decide) (by first | rfl | assumption | (repeat first | assumption | rfl | refine aG_n ?_ rfl rfl)) rfl ?_
      refine wp_goto (pc := 52) (tgt := 6) dX4_bestSet_52 rfl ?_
      exact l_bestSet h k f (n + 1) (by omega) _ (by first | rfl | assumption | (repeat first | assumption | rfl | refine aG_n ?_ rfl rfl)) (by rw [e]; first | rfl | assumption | (repeat first | assumption | rfl | refine aG_n ?_ rfl rfl)) (by rw [e]; first | rfl | assumption | (repeat first | assumption | rfl | refine aG_n ?_ rfl rfl)) (by rw [← nI_i1]; first | rfl | assumption | (repeat first | assumption | rfl | refine aG_n ?_ rfl rfl))
theorem c_X4_bestSet (h : Pr μ P t w) (k : Q (some (.int (bs (okP μ.1 t w) (fun n => gnd μ.1 t w 0 n + gnd μ.1 t w 1 n) 64).1)) μ) : WP X mX4_bestSet 0 (lv_args 0 [.ref P]) [] μ Q := by
  have hP := h.1
  refine wp_iconst (pc := 0) (v := -1) dX4_bestSet_0 (by decide) ?_
  refine wp_istore_n (pc := 1) dX4_bestSet_1 (by decide) ?_
  refine wp_iconst (pc := 2) (v := 0) dX4_bestSet_2 (by decide) ?_
  refine wp_istore_n (pc := 3) dX4_bestSet_3 (by decide) ?_
  refine wp_iconst (pc := 4) (v := 0) dX4_bestSet_4 (by decide) ?_
  refine wp_istore_n (pc := 5) dX4_bestSet_5 (by decide) ?_
  exact l_bestSet h k 64 0 (by omega) _ (by first | rfl | assumption | (repeat first | assumption | rfl | refine aG_n ?_ rfl rfl)) (by first | rfl | assumption | (repeat first | assumption | rfl | refine aG_n ?_ rfl rfl)) (by first | rfl | assumption | (repeat first | assumption | rfl | refine aG_n ?_ rfl rfl)) (by first | rfl | assumption | (repeat first | assumption | rfl | refine aG_n ?_ rfl rfl))
end BEST

theorem J_worth (h s : Int32) : Jnt mX11_worth mX12_worth [.int h, .int s] := by
  intro X μ Q hI k
  by_cases c1 : inR h 0 3
  · by_cases c2 : inR s 0 63
    · obtain ⟨i, hi, rfl⟩ := inR_of (n := 3) c1
      obtain ⟨z, hz, rfl⟩ := inR_of (n := 63) c2
      obtain ⟨n, hn, w1, w2, w3, w4⟩ := hI.2.2.2.1 i (by omega)
      refine wp_iload_n (pc := 0) dX11_worth_0 (by first | rfl | assumption | (repeat first | assumption | rfl | refine aG_n ?_ rfl rfl)) ?_
      refine wp_cS (pc := 1) dX11_worth_1 lk_11_101 rfl rfl rfl (c_X11_isHouse (fun _ => aK_i ?_) (fun q => absurd c1 q))
      refine wp_if_eq (pc := 4) (tgt := 14) dX11_worth_4 rfl (fun q => absurd q (by decide)) (fun _ => ?_)
      refine wp_iload_n (pc := 7) dX11_worth_7 (by first | rfl | assumption | (repeat first | assumption | rfl | refine aG_n ?_ rfl rfl)) ?_
      refine wp_cS (pc := 8) dX11_worth_8 lk_11_138 rfl rfl rfl (c_X11_isSet (fun _ => aK_i ?_) (fun q => absurd c2 q))
      refine wp_if_ne (pc := 11) (tgt := 18) dX11_worth_11 rfl (fun _ => ?_) (fun q => absurd q (by decide))
      refine wp_aload_n (pc := 18) dX11_worth_18 (by first | rfl | assumption | (repeat first | assumption | rfl | refine aG_n ?_ rfl rfl)) ?_
      refine wp_getR (pc := 19) dX11_worth_19 fl_11_11 (by first | rfl | assumption | exact sh_house (by omega) | exact sh_wish (by omega) | exact sh_wor (by omega) | exact sh_bar (by omega) | exact sh_term (by omega) | exact sh_sheet (by omega) | exact sh_items (by omega) | exact sh_sums (by omega)) rfl ?_
      refine wp_iload_n (pc := 22) dX11_worth_22 (by first | rfl | assumption | (repeat first | assumption | rfl | refine aG_n ?_ rfl rfl)) ?_
      refine wp_aald (pc := 23) dX11_worth_23 (by first | rfl | assumption | exact sh_house (by omega) | exact sh_wish (by omega) | exact sh_wor (by omega) | exact sh_bar (by omega) | exact sh_term (by omega) | exact sh_sheet (by omega) | exact sh_items (by omega) | exact sh_sums (by omega)) (vp_in_nI (by omega) (by decide)) (by decide) (el_house (by omega)) ?_
      refine wp_getR (pc := 24) dX11_worth_24 fl_11_127 (by first | rfl | assumption | exact sh_house (by omega) | exact sh_wish (by omega) | exact sh_wor (by omega) | exact sh_bar (by omega) | exact sh_term (by omega) | exact sh_sheet (by omega) | exact sh_items (by omega) | exact sh_sums (by omega)) rfl ?_
      refine wp_getR (pc := 27) dX11_worth_27 fl_11_141 (by first | rfl | assumption | exact sh_house (by omega) | exact sh_wish (by omega) | exact sh_wor (by omega) | exact sh_bar (by omega) | exact sh_term (by omega) | exact sh_sheet (by omega) | exact sh_items (by omega) | exact sh_sums (by omega)) rfl ?_
      refine wp_iload_n (pc := 30) dX11_worth_30 (by first | rfl | assumption | (repeat first | assumption | rfl | refine aG_n ?_ rfl rfl)) ?_
      refine wp_iald (pc := 31) dX11_worth_31 (by first | rfl | assumption | exact sh_house (by omega) | exact sh_wish (by omega) | exact sh_wor (by omega) | exact sh_bar (by omega) | exact sh_term (by omega) | exact sh_sheet (by omega) | exact sh_items (by omega) | exact sh_sums (by omega)) (vp_in_nI (by omega) (by decide)) ?_
      refine wp_ireturn (pc := 32) dX11_worth_32 rfl (by first | rfl | decide | assumption) ?_
      refine k _ _ (fun Q' k' => ?_)
      refine wp_iload_n (pc := 0) dX12_worth_0 (by first | rfl | assumption | (repeat first | assumption | rfl | refine aG_n ?_ rfl rfl)) ?_
      refine wp_cS (pc := 1) dX12_worth_1 lk_12_143 rfl rfl rfl (c_X12_isHouse (fun _ => aK_i ?_) (fun q => absurd c1 q))
      refine wp_if_eq (pc := 4) (tgt := 23) dX12_worth_4 rfl (fun q => absurd q (by decide)) (fun _ => ?_)
      refine wp_iload_n (pc := 7) dX12_worth_7 (by first | rfl | assumption | (repeat first | assumption | rfl | refine aG_n ?_ rfl rfl)) ?_
      refine wp_cS (pc := 8) dX12_worth_8 lk_12_197 rfl rfl rfl (c_X12_isSet (fun _ => aK_i ?_) (fun q => absurd c2 q))
      refine wp_if_eq (pc := 11) (tgt := 23) dX12_worth_11 rfl (fun q => absurd q (by decide)) (fun _ => ?_)
      refine wp_aload_n (pc := 14) dX12_worth_14 (by first | rfl | assumption | (repeat first | assumption | rfl | refine aG_n ?_ rfl rfl)) ?_
      refine wp_iload_n (pc := 15) dX12_worth_15 (by first | rfl | assumption | (repeat first | assumption | rfl | refine aG_n ?_ rfl rfl)) ?_
      refine wp_iload_n (pc := 16) dX12_worth_16 (by first | rfl | assumption | (repeat first | assumption | rfl | refine aG_n ?_ rfl rfl)) ?_
      refine wp_cV (pc := 17) dX12_worth_17 lk_12_200 rfl (by decide) rfl (by first | rfl | assumption | exact sh_house (by omega) | exact sh_wish (by omega) | exact sh_wor (by omega) | exact sh_bar (by omega) | exact sh_term (by omega) | exact sh_sheet (by omega) | exact sh_items (by omega) | exact sh_sums (by omega)) rfl rfl (c_X12_worthOf (by omega) hn w2 (aK_i ?_))
      refine wp_goto (pc := 20) (tgt := 26) dX12_worth_20 rfl ?_
      refine wp_ireturn (pc := 26) dX12_worth_26 rfl (by first | rfl | decide | assumption) ?_
      refine qEq ?_ (k' _ hI)
      rw [nI_clamp (by omega)]
      exact (w4 z (by omega)).1.symm
    · refine wp_iload_n (pc := 0) dX11_worth_0 (by first | rfl | assumption | (repeat first | assumption | rfl | refine aG_n ?_ rfl rfl)) ?_
      refine wp_cS (pc := 1) dX11_worth_1 lk_11_101 rfl rfl rfl (c_X11_isHouse (fun _ => aK_i ?_) (fun q => absurd c1 q))
      refine wp_if_eq (pc := 4) (tgt := 14) dX11_worth_4 rfl (fun q => absurd q (by decide)) (fun _ => ?_)
      refine wp_iload_n (pc := 7) dX11_worth_7 (by first | rfl | assumption | (repeat first | assumption | rfl | refine aG_n ?_ rfl rfl)) ?_
      refine wp_cS (pc := 8) dX11_worth_8 lk_11_138 rfl rfl rfl (c_X11_isSet (fun q => absurd q c2) (fun _ => aK_i ?_))
      refine wp_if_ne (pc := 11) (tgt := 18) dX11_worth_11 rfl (fun q => absurd q (by decide)) (fun _ => ?_)
      refine wp_sipush (pc := 14) (v := -10001) dX11_worth_14 (by decide) ?_
      refine wp_ireturn (pc := 17) dX11_worth_17 rfl (by first | rfl | decide | assumption) ?_
      refine k _ _ (fun Q' k' => ?_)
      refine wp_iload_n (pc := 0) dX12_worth_0 (by first | rfl | assumption | (repeat first | assumption | rfl | refine aG_n ?_ rfl rfl)) ?_
      refine wp_cS (pc := 1) dX12_worth_1 lk_12_143 rfl rfl rfl (c_X12_isHouse (fun _ => aK_i ?_) (fun q => absurd c1 q))
      refine wp_if_eq (pc := 4) (tgt := 23) dX12_worth_4 rfl (fun q => absurd q (by decide)) (fun _ => ?_)
      refine wp_iload_n (pc := 7) dX12_worth_7 (by first | rfl | assumption | (repeat first | assumption | rfl | refine aG_n ?_ rfl rfl)) ?_
      refine wp_cS (pc := 8) dX12_worth_8 lk_12_197 rfl rfl rfl (c_X12_isSet (fun q => absurd q c2) (fun _ => aK_i ?_))
      refine wp_if_eq (pc := 11) (tgt := 23) dX12_worth_11 rfl (fun _ => ?_) (fun q => absurd q (by decide))
      refine wp_sipush (pc := 23) (v := -10001) dX12_worth_23 (by decide) ?_
      refine wp_ireturn (pc := 26) dX12_worth_26 rfl (by first | rfl | decide | assumption) ?_
      exact k' _ hI
  · refine wp_iload_n (pc := 0) dX11_worth_0 (by first | rfl | assumption | (repeat first | assumption | rfl | refine aG_n ?_ rfl rfl)) ?_
    refine wp_cS (pc := 1) dX11_worth_1 lk_11_101 rfl rfl rfl (c_X11_isHouse (fun q => absurd q c1) (fun _ => aK_i ?_))
    refine wp_if_eq (pc := 4) (tgt := 14) dX11_worth_4 rfl (fun _ => ?_) (fun q => absurd q (by decide))
    refine wp_sipush (pc := 14) (v := -10001) dX11_worth_14 (by decide) ?_
    refine wp_ireturn (pc := 17) dX11_worth_17 rfl (by first | rfl | decide | assumption) ?_
    refine k _ _ (fun Q' k' => ?_)
    refine wp_iload_n (pc := 0) dX12_worth_0 (by first | rfl | assumption | (repeat first | assumption | rfl | refine aG_n ?_ rfl rfl)) ?_
    refine wp_cS (pc := 1) dX12_worth_1 lk_12_143 rfl rfl rfl (c_X12_isHouse (fun q => absurd q c1) (fun _ => aK_i ?_))
    refine wp_if_eq (pc := 4) (tgt := 23) dX12_worth_4 rfl (fun _ => ?_) (fun q => absurd q (by decide))
    refine wp_sipush (pc := 23) (v := -10001) dX12_worth_23 (by decide) ?_
    refine wp_ireturn (pc := 26) dX12_worth_26 rfl (by first | rfl | decide | assumption) ?_
    exact k' _ hI
theorem J_barred (h s : Int32) : Jnt mX11_barred mX12_barred [.int h, .int s] := by
  intro X μ Q hI k
  by_cases c1 : inR h 0 3
  · by_cases c2 : inR s 0 63
    · obtain ⟨i, hi, rfl⟩ := inR_of (n := 3) c1
      obtain ⟨z, hz, rfl⟩ := inR_of (n := 63) c2
      obtain ⟨n, hn, w1, w2, w3, w4⟩ := hI.2.2.2.1 i (by omega)
      have w5 := (w4 z (by omega)).2
      by_cases c3 : bF μ.1 i (nI z) n = true
      · have w6 : ¬ μ.1 (58 + 4 * i) (nI z).toNatClampNeg = 0 := by rw [nI_clamp (by omega), w5, c3]; decide
        refine wp_iload_n (pc := 0) dX11_barred_0 (by first | rfl | assumption | (repeat first | assumption | rfl | refine aG_n ?_ rfl rfl)) ?_
        refine wp_cS (pc := 1) dX11_barred_1 lk_11_101 rfl rfl rfl (c_X11_isHouse (fun _ => aK_i ?_) (fun q => absurd c1 q))
        refine wp_if_eq (pc := 4) (tgt := 14) dX11_barred_4 rfl (fun q => absurd q (by decide)) (fun _ => ?_)
        refine wp_iload_n (pc := 7) dX11_barred_7 (by first | rfl | assumption | (repeat first | assumption | rfl | refine aG_n ?_ rfl rfl)) ?_
        refine wp_cS (pc := 8) dX11_barred_8 lk_11_138 rfl rfl rfl (c_X11_isSet (fun _ => aK_i ?_) (fun q => absurd c2 q))
        refine wp_if_ne (pc := 11) (tgt := 16) dX11_barred_11 rfl (fun _ => ?_) (fun q => absurd q (by decide))
        refine wp_aload_n (pc := 16) dX11_barred_16 (by first | rfl | assumption | (repeat first | assumption | rfl | refine aG_n ?_ rfl rfl)) ?_
        refine wp_getR (pc := 17) dX11_barred_17 fl_11_11 (by first | rfl | assumption | exact sh_house (by omega) | exact sh_wish (by omega) | exact sh_wor (by omega) | exact sh_bar (by omega) | exact sh_term (by omega) | exact sh_sheet (by omega) | exact sh_items (by omega) | exact sh_sums (by omega)) rfl ?_
        refine wp_iload_n (pc := 20) dX11_barred_20 (by first | rfl | assumption | (repeat first | assumption | rfl | refine aG_n ?_ rfl rfl)) ?_
        refine wp_aald (pc := 21) dX11_barred_21 (by first | rfl | assumption | exact sh_house (by omega) | exact sh_wish (by omega) | exact sh_wor (by omega) | exact sh_bar (by omega) | exact sh_term (by omega) | exact sh_sheet (by omega) | exact sh_items (by omega) | exact sh_sums (by omega)) (vp_in_nI (by omega) (by decide)) (by decide) (el_house (by omega)) ?_
        refine wp_getR (pc := 22) dX11_barred_22 fl_11_127 (by first | rfl | assumption | exact sh_house (by omega) | exact sh_wish (by omega) | exact sh_wor (by omega) | exact sh_bar (by omega) | exact sh_term (by omega) | exact sh_sheet (by omega) | exact sh_items (by omega) | exact sh_sums (by omega)) rfl ?_
        refine wp_getR (pc := 25) dX11_barred_25 fl_11_144 (by first | rfl | assumption | exact sh_house (by omega) | exact sh_wish (by omega) | exact sh_wor (by omega) | exact sh_bar (by omega) | exact sh_term (by omega) | exact sh_sheet (by omega) | exact sh_items (by omega) | exact sh_sums (by omega)) rfl ?_
        refine wp_iload_n (pc := 28) dX11_barred_28 (by first | rfl | assumption | (repeat first | assumption | rfl | refine aG_n ?_ rfl rfl)) ?_
        refine wp_zald (pc := 29) dX11_barred_29 (by first | rfl | assumption | exact sh_house (by omega) | exact sh_wish (by omega) | exact sh_wor (by omega) | exact sh_bar (by omega) | exact sh_term (by omega) | exact sh_sheet (by omega) | exact sh_items (by omega) | exact sh_sums (by omega)) (vp_in_nI (by omega) (by decide)) ?_
        refine wp_cS (pc := 30) dX11_barred_30 lk_11_148 rfl rfl rfl ?_
        refine wp_iload_n (pc := 0) dX11_oneIf_0 (by first | rfl | assumption | (repeat first | assumption | rfl | refine aG_n ?_ rfl rfl)) ?_
        refine wp_if_eq (pc := 1) (tgt := 8) dX11_oneIf_1 rfl (fun q => absurd q w6) (fun _ => ?_)
        refine wp_iconst (pc := 4) (v := 1) dX11_oneIf_4 (by decide) ?_
        refine wp_goto (pc := 5) (tgt := 9) dX11_oneIf_5 rfl ?_
        refine wp_iretK (pc := 9) dX11_oneIf_9 rfl (by first | rfl | decide | assumption) ?_
        refine wp_ireturn (pc := 33) dX11_barred_33 rfl (by first | rfl | decide | assumption) ?_
        refine k _ _ (fun Q' k' => ?_)
        refine wp_iload_n (pc := 0) dX12_barred_0 (by first | rfl | assumption | (repeat first | assumption | rfl | refine aG_n ?_ rfl rfl)) ?_
        refine wp_cS (pc := 1) dX12_barred_1 lk_12_143 rfl rfl rfl (c_X12_isHouse (fun _ => aK_i ?_) (fun q => absurd c1 q))
        refine wp_if_eq (pc := 4) (tgt := 14) dX12_barred_4 rfl (fun q => absurd q (by decide)) (fun _ => ?_)
        refine wp_iload_n (pc := 7) dX12_barred_7 (by first | rfl | assumption | (repeat first | assumption | rfl | refine aG_n ?_ rfl rfl)) ?_
        refine wp_cS (pc := 8) dX12_barred_8 lk_12_197 rfl rfl rfl (c_X12_isSet (fun _ => aK_i ?_) (fun q => absurd c2 q))
        refine wp_if_ne (pc := 11) (tgt := 18) dX12_barred_11 rfl (fun _ => ?_) (fun q => absurd q (by decide))
        refine wp_aload_n (pc := 18) dX12_barred_18 (by first | rfl | assumption | (repeat first | assumption | rfl | refine aG_n ?_ rfl rfl)) ?_
        refine wp_iload_n (pc := 19) dX12_barred_19 (by first | rfl | assumption | (repeat first | assumption | rfl | refine aG_n ?_ rfl rfl)) ?_
        refine wp_iload_n (pc := 20) dX12_barred_20 (by first | rfl | assumption | (repeat first | assumption | rfl | refine aG_n ?_ rfl rfl)) ?_
        refine wp_cV (pc := 21) dX12_barred_21 lk_12_204 rfl (by decide) rfl (by first | rfl | assumption | exact sh_house (by omega) | exact sh_wish (by omega) | exact sh_wor (by omega) | exact sh_bar (by omega) | exact sh_term (by omega) | exact sh_sheet (by omega) | exact sh_items (by omega) | exact sh_sums (by omega)) rfl rfl (c_X12_isBarred (by omega) hn w2 (aK_i ?_))
        refine wp_if_eq (pc := 24) (tgt := 31) dX12_barred_24 rfl (fun q => absurd q (by rw [c3]; decide)) (fun _ => ?_)
        refine wp_iconst (pc := 27) (v := 1) dX12_barred_27 (by decide) ?_
        refine wp_goto (pc := 28) (tgt := 32) dX12_barred_28 rfl ?_
        refine wp_ireturn (pc := 32) dX12_barred_32 rfl (by first | rfl | decide | assumption) ?_
        exact k' _ hI
      · have c3' : bF μ.1 i (nI z) n = false := by simpa using c3
        have w6 : μ.1 (58 + 4 * i) (nI z).toNatClampNeg = 0 := by rw [nI_clamp (by omega), w5, c3']; decide
        refine wp_iload_n (pc := 0) dX11_barred_0 (by first | rfl | assumption | (repeat first | assumption | rfl | refine aG_n ?_ rfl rfl)) ?_
        refine wp_cS (pc := 1) dX11_barred_1 lk_11_101 rfl rfl rfl (c_X11_isHouse (fun _ => aK_i ?_) (fun q => absurd c1 q))
        refine wp_if_eq (pc := 4) (tgt := 14) dX11_barred_4 rfl (fun q => absurd q (by decide)) (fun _ => ?_)
        refine wp_iload_n (pc := 7) dX11_barred_7 (by first | rfl | assumption | (repeat first | assumption | rfl | refine aG_n ?_ rfl rfl)) ?_
        refine wp_cS (pc := 8) dX11_barred_8 lk_11_138 rfl rfl rfl (c_X11_isSet (fun _ => aK_i ?_) (fun q => absurd c2 q))
        refine wp_if_ne (pc := 11) (tgt := 16) dX11_barred_11 rfl (fun _ => ?_) (fun q => absurd q (by decide))
        refine wp_aload_n (pc := 16) dX11_barred_16 (by first | rfl | assumption | (repeat first | assumption | rfl | refine aG_n ?_ rfl rfl)) ?_
        refine wp_getR (pc := 17) dX11_barred_17 fl_11_11 (by first | rfl | assumption | exact sh_house (by omega) | exact sh_wish (by omega) | exact sh_wor (by omega) | exact sh_bar (by omega) | exact sh_term (by omega) | exact sh_sheet (by omega) | exact sh_items (by omega) | exact sh_sums (by omega)) rfl ?_
        refine wp_iload_n (pc := 20) dX11_barred_20 (by first | rfl | assumption | (repeat first | assumption | rfl | refine aG_n ?_ rfl rfl)) ?_
        refine wp_aald (pc := 21) dX11_barred_21 (by first | rfl | assumption | exact sh_house (by omega) | exact sh_wish (by omega) | exact sh_wor (by omega) | exact sh_bar (by omega) | exact sh_term (by omega) | exact sh_sheet (by omega) | exact sh_items (by omega) | exact sh_sums (by omega)) (vp_in_nI (by omega) (by decide)) (by decide) (el_house (by omega)) ?_
        refine wp_getR (pc := 22) dX11_barred_22 fl_11_127 (by first | rfl | assumption | exact sh_house (by omega) | exact sh_wish (by omega) | exact sh_wor (by omega) | exact sh_bar (by omega) | exact sh_term (by omega) | exact sh_sheet (by omega) | exact sh_items (by omega) | exact sh_sums (by omega)) rfl ?_
        refine wp_getR (pc := 25) dX11_barred_25 fl_11_144 (by first | rfl | assumption | exact sh_house (by omega) | exact sh_wish (by omega) | exact sh_wor (by omega) | exact sh_bar (by omega) | exact sh_term (by omega) | exact sh_sheet (by omega) | exact sh_items (by omega) | exact sh_sums (by omega)) rfl ?_
        refine wp_iload_n (pc := 28) dX11_barred_28 (by first | rfl | assumption | (repeat first | assumption | rfl | refine aG_n ?_ rfl rfl)) ?_
        refine wp_zald (pc := 29) dX11_barred_29 (by first | rfl | assumption | exact sh_house (by omega) | exact sh_wish (by omega) | exact sh_wor (by omega) | exact sh_bar (by omega) | exact sh_term (by omega) | exact sh_sheet (by omega) | exact sh_items (by omega) | exact sh_sums (by omega)) (vp_in_nI (by omega) (by decide)) ?_
        refine wp_cS (pc := 30) dX11_barred_30 lk_11_148 rfl rfl rfl ?_
        refine wp_iload_n (pc := 0) dX11_oneIf_0 (by first | rfl | assumption | (repeat first | assumption | rfl | refine aG_n ?_ rfl rfl)) ?_
        refine wp_if_eq (pc := 1) (tgt := 8) dX11_oneIf_1 rfl (fun _ => ?_) (fun q => absurd w6 q)
        refine wp_iconst (pc := 8) (v := 0) dX11_oneIf_8 (by decide) ?_
        refine wp_iretK (pc := 9) dX11_oneIf_9 rfl (by first | rfl | decide | assumption) ?_
        refine wp_ireturn (pc := 33) dX11_barred_33 rfl (by first | rfl | decide | assumption) ?_
        refine k _ _ (fun Q' k' => ?_)
        refine wp_iload_n (pc := 0) dX12_barred_0 (by first | rfl | assumption | (repeat first | assumption | rfl | refine aG_n ?_ rfl rfl)) ?_
        refine wp_cS (pc := 1) dX12_barred_1 lk_12_143 rfl rfl rfl (c_X12_isHouse (fun _ => aK_i ?_) (fun q => absurd c1 q))
        refine wp_if_eq (pc := 4) (tgt := 14) dX12_barred_4 rfl (fun q => absurd q (by decide)) (fun _ => ?_)
        refine wp_iload_n (pc := 7) dX12_barred_7 (by first | rfl | assumption | (repeat first | assumption | rfl | refine aG_n ?_ rfl rfl)) ?_
        refine wp_cS (pc := 8) dX12_barred_8 lk_12_197 rfl rfl rfl (c_X12_isSet (fun _ => aK_i ?_) (fun q => absurd c2 q))
        refine wp_if_ne (pc := 11) (tgt := 18) dX12_barred_11 rfl (fun _ => ?_) (fun q => absurd q (by decide))
        refine wp_aload_n (pc := 18) dX12_barred_18 (by first | rfl | assumption | (repeat first | assumption | rfl | refine aG_n ?_ rfl rfl)) ?_
        refine wp_iload_n (pc := 19) dX12_barred_19 (by first | rfl | assumption | (repeat first | assumption | rfl | refine aG_n ?_ rfl rfl)) ?_
        refine wp_iload_n (pc := 20) dX12_barred_20 (by first | rfl | assumption | (repeat first | assumption | rfl | refine aG_n ?_ rfl rfl)) ?_
        refine wp_cV (pc := 21) dX12_barred_21 lk_12_204 rfl (by decide) rfl (by first | rfl | assumption | exact sh_house (by omega) | exact sh_wish (by omega) | exact sh_wor (by omega) | exact sh_bar (by omega) | exact sh_term (by omega) | exact sh_sheet (by omega) | exact sh_items (by omega) | exact sh_sums (by omega)) rfl rfl (c_X12_isBarred (by omega) hn w2 (aK_i ?_))
        refine wp_if_eq (pc := 24) (tgt := 31) dX12_barred_24 rfl (fun _ => ?_) (fun q => absurd (by rw [c3']; decide) q)
        refine wp_iconst (pc := 31) (v := 0) dX12_barred_31 (by decide) ?_
        refine wp_ireturn (pc := 32) dX12_barred_32 rfl (by first | rfl | decide | assumption) ?_
        exact k' _ hI
    · refine wp_iload_n (pc := 0) dX11_barred_0 (by first | rfl | assumption | (repeat first | assumption | rfl | refine aG_n ?_ rfl rfl)) ?_
      refine wp_cS (pc := 1) dX11_barred_1 lk_11_101 rfl rfl rfl (c_X11_isHouse (fun _ => aK_i ?_) (fun q => absurd c1 q))
      refine wp_if_eq (pc := 4) (tgt := 14) dX11_barred_4 rfl (fun q => absurd q (by decide)) (fun _ => ?_)
      refine wp_iload_n (pc := 7) dX11_barred_7 (by first | rfl | assumption | (repeat first | assumption | rfl | refine aG_n ?_ rfl rfl)) ?_
      refine wp_cS (pc := 8) dX11_barred_8 lk_11_138 rfl rfl rfl (c_X11_isSet (fun q => absurd q c2) (fun _ => aK_i ?_))
      refine wp_if_ne (pc := 11) (tgt := 16) dX11_barred_11 rfl (fun q => absurd q (by decide)) (fun _ => ?_)
      refine wp_iconst (pc := 14) (v := -1) dX11_barred_14 (by decide) ?_
      refine wp_ireturn (pc := 15) dX11_barred_15 rfl (by first | rfl | decide | assumption) ?_
      refine k _ _ (fun Q' k' => ?_)
      refine wp_iload_n (pc := 0) dX12_barred_0 (by first | rfl | assumption | (repeat first | assumption | rfl | refine aG_n ?_ rfl rfl)) ?_
      refine wp_cS (pc := 1) dX12_barred_1 lk_12_143 rfl rfl rfl (c_X12_isHouse (fun _ => aK_i ?_) (fun q => absurd c1 q))
      refine wp_if_eq (pc := 4) (tgt := 14) dX12_barred_4 rfl (fun q => absurd q (by decide)) (fun _ => ?_)
      refine wp_iload_n (pc := 7) dX12_barred_7 (by first | rfl | assumption | (repeat first | assumption | rfl | refine aG_n ?_ rfl rfl)) ?_
      refine wp_cS (pc := 8) dX12_barred_8 lk_12_197 rfl rfl rfl (c_X12_isSet (fun q => absurd q c2) (fun _ => aK_i ?_))
      refine wp_if_ne (pc := 11) (tgt := 18) dX12_barred_11 rfl (fun q => absurd q (by decide)) (fun _ => ?_)
      refine wp_iconst (pc := 14) (v := -1) dX12_barred_14 (by decide) ?_
      refine wp_goto (pc := 15) (tgt := 32) dX12_barred_15 rfl ?_
      refine wp_ireturn (pc := 32) dX12_barred_32 rfl (by first | rfl | decide | assumption) ?_
      exact k' _ hI
  · refine wp_iload_n (pc := 0) dX11_barred_0 (by first | rfl | assumption | (repeat first | assumption | rfl | refine aG_n ?_ rfl rfl)) ?_
    refine wp_cS (pc := 1) dX11_barred_1 lk_11_101 rfl rfl rfl (c_X11_isHouse (fun q => absurd q c1) (fun _ => aK_i ?_))
    refine wp_if_eq (pc := 4) (tgt := 14) dX11_barred_4 rfl (fun _ => ?_) (fun q => absurd q (by decide))
    refine wp_iconst (pc := 14) (v := -1) dX11_barred_14 (by decide) ?_
    refine wp_ireturn (pc := 15) dX11_barred_15 rfl (by first | rfl | decide | assumption) ?_
    refine k _ _ (fun Q' k' => ?_)
    refine wp_iload_n (pc := 0) dX12_barred_0 (by first | rfl | assumption | (repeat first | assumption | rfl | refine aG_n ?_ rfl rfl)) ?_
    refine wp_cS (pc := 1) dX12_barred_1 lk_12_143 rfl rfl rfl (c_X12_isHouse (fun q => absurd q c1) (fun _ => aK_i ?_))
    refine wp_if_eq (pc := 4) (tgt := 14) dX12_barred_4 rfl (fun _ => ?_) (fun q => absurd q (by decide))
    refine wp_iconst (pc := 14) (v := -1) dX12_barred_14 (by decide) ?_
    refine wp_goto (pc := 15) (tgt := 32) dX12_barred_15 rfl ?_
    refine wp_ireturn (pc := 32) dX12_barred_32 rfl (by first | rfl | decide | assumption) ?_
    exact k' _ hI

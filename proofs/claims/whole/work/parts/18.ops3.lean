theorem J_told (h w : Int32) : Jnt mX11_told mX12_told [.int h, .int w] := by
  intro X μ Q hI k
  by_cases c1 : inR h 0 3
  · obtain ⟨i, hi, rfl⟩ := inR_of (n := 3) c1
    by_cases c2 : inR w 0 5
    · obtain ⟨j, hj, rfl⟩ := inR_of (n := 5) c2
      match j, hj with
      | 0, _ =>
        refine wp_iload_n (pc := 0) dX11_told_0 (by first | rfl | assumption | (repeat first | assumption | rfl | refine aG_n ?_ rfl rfl)) ?_
        refine wp_cS (pc := 1) dX11_told_1 lk_11_101 rfl rfl rfl (c_X11_isHouse (fun _ => aK_i ?_) (fun q => absurd (by assumption) q))
        refine wp_if_ne (pc := 4) (tgt := 9) dX11_told_4 rfl (fun _ => ?_) (fun q => absurd q (by decide))
        refine wp_aload_n (pc := 9) dX11_told_9 (by first | rfl | assumption | (repeat first | assumption | rfl | refine aG_n ?_ rfl rfl)) ?_
        refine wp_getR (pc := 10) dX11_told_10 fl_11_11 (by first | rfl | assumption | exact sh_house (by omega) | exact sh_wish (by omega) | exact sh_wor (by omega) | exact sh_bar (by omega) | exact sh_term (by omega) | exact sh_sheet (by omega) | exact sh_items (by omega) | exact sh_sums (by omega)) rfl ?_
        refine wp_iload_n (pc := 13) dX11_told_13 (by first | rfl | assumption | (repeat first | assumption | rfl | refine aG_n ?_ rfl rfl)) ?_
        refine wp_aald (pc := 14) dX11_told_14 (by first | rfl | assumption | exact sh_house (by omega) | exact sh_wish (by omega) | exact sh_wor (by omega) | exact sh_bar (by omega) | exact sh_term (by omega) | exact sh_sheet (by omega) | exact sh_items (by omega) | exact sh_sums (by omega)) (vp_in_nI (by omega) (by decide)) (by decide) (el_house (by omega)) ?_
        refine wp_astore_n (pc := 15) dX11_told_15 (by decide) ?_
        refine wp_iload_n (pc := 16) dX11_told_16 (by first | rfl | assumption | (repeat first | assumption | rfl | refine aG_n ?_ rfl rfl)) ?_
        refine wp_swI (pc := 17) (j := 0) (off := 39) (tgt := 56) dX11_told_17 (by decide) (by decide) rfl rfl ?_
        refine wp_aload_n (pc := 56) dX11_told_56 (by first | rfl | assumption | (repeat first | assumption | rfl | refine aG_n ?_ rfl rfl)) ?_
        refine wp_getI (pc := 57) dX11_told_57 fl_11_71 (by first | rfl | assumption | exact sh_house (by omega) | exact sh_wish (by omega) | exact sh_wor (by omega) | exact sh_bar (by omega) | exact sh_term (by omega) | exact sh_sheet (by omega) | exact sh_items (by omega) | exact sh_sums (by omega)) rfl ?_
        refine wp_ireturn (pc := 60) dX11_told_60 rfl (by first | rfl | decide | assumption) ?_
        refine k _ _ (fun Q' k' => ?_)
        refine wp_iload_n (pc := 0) dX12_told_0 (by first | rfl | assumption | (repeat first | assumption | rfl | refine aG_n ?_ rfl rfl)) ?_
        refine wp_cS (pc := 1) dX12_told_1 lk_12_143 rfl rfl rfl (c_X12_isHouse (fun _ => aK_i ?_) (fun q => absurd (by assumption) q))
        refine wp_if_eq (pc := 4) (tgt := 19) dX12_told_4 rfl (fun q => absurd q (by decide)) (fun _ => ?_)
        refine wp_iload_n (pc := 7) dX12_told_7 (by first | rfl | assumption | (repeat first | assumption | rfl | refine aG_n ?_ rfl rfl)) ?_
        refine wp_i2l (pc := 8) dX12_told_8 ?_
        refine wp_lconst (pc := 9) (v := 0) dX12_told_9 (by decide) ?_
        refine wp_ldc2 (pc := 10) dX12_told_10 cl_12_141 ?_
        refine wp_cS (pc := 13) dX12_told_13 lk_12_133 rfl rfl rfl (c_X12_in (fun _ => aK_i ?_) (fun q => absurd (by rw [w_int]; exact c2) q))
        refine wp_if_ne (pc := 16) (tgt := 21) dX12_told_16 rfl (fun _ => ?_) (fun q => absurd q (by decide))
        refine wp_iload_n (pc := 21) dX12_told_21 (by first | rfl | assumption | (repeat first | assumption | rfl | refine aG_n ?_ rfl rfl)) ?_
        refine wp_if_ne (pc := 22) (tgt := 33) dX12_told_22 rfl (fun q => absurd q (by decide)) (fun _ => ?_)
        refine wp_aload_n (pc := 25) dX12_told_25 (by first | rfl | assumption | (repeat first | assumption | rfl | refine aG_n ?_ rfl rfl)) ?_
        refine wp_iload_n (pc := 26) dX12_told_26 (by first | rfl | assumption | (repeat first | assumption | rfl | refine aG_n ?_ rfl rfl)) ?_
        refine wp_cV (pc := 27) dX12_told_27 lk_12_208 rfl (by decide) rfl (by first | rfl | assumption | exact sh_house (by omega) | exact sh_wish (by omega) | exact sh_wor (by omega) | exact sh_bar (by omega) | exact sh_term (by omega) | exact sh_sheet (by omega) | exact sh_items (by omega) | exact sh_sums (by omega)) rfl rfl (c_X12_thingsOf (aK_i ?_))
        refine wp_goto (pc := 30) (tgt := 95) dX12_told_30 rfl ?_
        refine wp_ireturn (pc := 95) dX12_told_95 rfl (by first | rfl | decide | assumption) ?_
        refine qEq ?_ (k' _ hI)
        exact (hI.1.2 i (by omega)).symm
      | 1, _ =>
        refine wp_iload_n (pc := 0) dX11_told_0 (by first | rfl | assumption | (repeat first | assumption | rfl | refine aG_n ?_ rfl rfl)) ?_
        refine wp_cS (pc := 1) dX11_told_1 lk_11_101 rfl rfl rfl (c_X11_isHouse (fun _ => aK_i ?_) (fun q => absurd (by assumption) q))
        refine wp_if_ne (pc := 4) (tgt := 9) dX11_told_4 rfl (fun _ => ?_) (fun q => absurd q (by decide))
        refine wp_aload_n (pc := 9) dX11_told_9 (by first | rfl | assumption | (repeat first | assumption | rfl | refine aG_n ?_ rfl rfl)) ?_
        refine wp_getR (pc := 10) dX11_told_10 fl_11_11 (by first | rfl | assumption | exact sh_house (by omega) | exact sh_wish (by omega) | exact sh_wor (by omega) | exact sh_bar (by omega) | exact sh_term (by omega) | exact sh_sheet (by omega) | exact sh_items (by omega) | exact sh_sums (by omega)) rfl ?_
        refine wp_iload_n (pc := 13) dX11_told_13 (by first | rfl | assumption | (repeat first | assumption | rfl | refine aG_n ?_ rfl rfl)) ?_
        refine wp_aald (pc := 14) dX11_told_14 (by first | rfl | assumption | exact sh_house (by omega) | exact sh_wish (by omega) | exact sh_wor (by omega) | exact sh_bar (by omega) | exact sh_term (by omega) | exact sh_sheet (by omega) | exact sh_items (by omega) | exact sh_sums (by omega)) (vp_in_nI (by omega) (by decide)) (by decide) (el_house (by omega)) ?_
        refine wp_astore_n (pc := 15) dX11_told_15 (by decide) ?_
        refine wp_iload_n (pc := 16) dX11_told_16 (by first | rfl | assumption | (repeat first | assumption | rfl | refine aG_n ?_ rfl rfl)) ?_
        refine wp_swI (pc := 17) (j := 1) (off := 44) (tgt := 61) dX11_told_17 (by decide) (by decide) rfl rfl ?_
        refine wp_aload_n (pc := 61) dX11_told_61 (by first | rfl | assumption | (repeat first | assumption | rfl | refine aG_n ?_ rfl rfl)) ?_
        refine wp_getI (pc := 62) dX11_told_62 fl_11_116 (by first | rfl | assumption | exact sh_house (by omega) | exact sh_wish (by omega) | exact sh_wor (by omega) | exact sh_bar (by omega) | exact sh_term (by omega) | exact sh_sheet (by omega) | exact sh_items (by omega) | exact sh_sums (by omega)) rfl ?_
        refine wp_ireturn (pc := 65) dX11_told_65 rfl (by first | rfl | decide | assumption) ?_
        refine k _ _ (fun Q' k' => ?_)
        refine wp_iload_n (pc := 0) dX12_told_0 (by first | rfl | assumption | (repeat first | assumption | rfl | refine aG_n ?_ rfl rfl)) ?_
        refine wp_cS (pc := 1) dX12_told_1 lk_12_143 rfl rfl rfl (c_X12_isHouse (fun _ => aK_i ?_) (fun q => absurd (by assumption) q))
        refine wp_if_eq (pc := 4) (tgt := 19) dX12_told_4 rfl (fun q => absurd q (by decide)) (fun _ => ?_)
        refine wp_iload_n (pc := 7) dX12_told_7 (by first | rfl | assumption | (repeat first | assumption | rfl | refine aG_n ?_ rfl rfl)) ?_
        refine wp_i2l (pc := 8) dX12_told_8 ?_
        refine wp_lconst (pc := 9) (v := 0) dX12_told_9 (by decide) ?_
        refine wp_ldc2 (pc := 10) dX12_told_10 cl_12_141 ?_
        refine wp_cS (pc := 13) dX12_told_13 lk_12_133 rfl rfl rfl (c_X12_in (fun _ => aK_i ?_) (fun q => absurd (by rw [w_int]; exact c2) q))
        refine wp_if_ne (pc := 16) (tgt := 21) dX12_told_16 rfl (fun _ => ?_) (fun q => absurd q (by decide))
        refine wp_iload_n (pc := 21) dX12_told_21 (by first | rfl | assumption | (repeat first | assumption | rfl | refine aG_n ?_ rfl rfl)) ?_
        refine wp_if_ne (pc := 22) (tgt := 33) dX12_told_22 rfl (fun _ => ?_) (fun q => absurd q (by decide))
        refine wp_iload_n (pc := 33) dX12_told_33 (by first | rfl | assumption | (repeat first | assumption | rfl | refine aG_n ?_ rfl rfl)) ?_
        refine wp_iconst (pc := 34) (v := 1) dX12_told_34 (by decide) ?_
        refine wp_icmp_ne (pc := 35) (tgt := 47) dX12_told_35 rfl (fun q => absurd q (by decide)) (fun _ => ?_)
        refine wp_aload_n (pc := 38) dX12_told_38 (by first | rfl | assumption | (repeat first | assumption | rfl | refine aG_n ?_ rfl rfl)) ?_
        refine wp_getR (pc := 39) dX12_told_39 fl_12_13 (by first | rfl | assumption | exact sh_house (by omega) | exact sh_wish (by omega) | exact sh_wor (by omega) | exact sh_bar (by omega) | exact sh_term (by omega) | exact sh_sheet (by omega) | exact sh_items (by omega) | exact sh_sums (by omega)) rfl ?_
        refine wp_iload_n (pc := 42) dX12_told_42 (by first | rfl | assumption | (repeat first | assumption | rfl | refine aG_n ?_ rfl rfl)) ?_
        refine wp_iald (pc := 43) dX12_told_43 (by first | rfl | assumption | exact sh_house (by omega) | exact sh_wish (by omega) | exact sh_wor (by omega) | exact sh_bar (by omega) | exact sh_term (by omega) | exact sh_sheet (by omega) | exact sh_items (by omega) | exact sh_sums (by omega)) (vp_in_nI (by omega) (by decide)) ?_
        refine wp_goto (pc := 44) (tgt := 95) dX12_told_44 rfl ?_
        refine wp_ireturn (pc := 95) dX12_told_95 rfl (by first | rfl | decide | assumption) ?_
        refine qEq ?_ (k' _ hI)
        rw [nI_clamp (by omega)]
        exact (hI.2.1 i (by omega)).1.symm
      | 2, _ =>
        refine wp_iload_n (pc := 0) dX11_told_0 (by first | rfl | assumption | (repeat first | assumption | rfl | refine aG_n ?_ rfl rfl)) ?_
        refine wp_cS (pc := 1) dX11_told_1 lk_11_101 rfl rfl rfl (c_X11_isHouse (fun _ => aK_i ?_) (fun q => absurd (by assumption) q))
        refine wp_if_ne (pc := 4) (tgt := 9) dX11_told_4 rfl (fun _ => ?_) (fun q => absurd q (by decide))
        refine wp_aload_n (pc := 9) dX11_told_9 (by first | rfl | assumption | (repeat first | assumption | rfl | refine aG_n ?_ rfl rfl)) ?_
        refine wp_getR (pc := 10) dX11_told_10 fl_11_11 (by first | rfl | assumption | exact sh_house (by omega) | exact sh_wish (by omega) | exact sh_wor (by omega) | exact sh_bar (by omega) | exact sh_term (by omega) | exact sh_sheet (by omega) | exact sh_items (by omega) | exact sh_sums (by omega)) rfl ?_
        refine wp_iload_n (pc := 13) dX11_told_13 (by first | rfl | assumption | (repeat first | assumption | rfl | refine aG_n ?_ rfl rfl)) ?_
        refine wp_aald (pc := 14) dX11_told_14 (by first | rfl | assumption | exact sh_house (by omega) | exact sh_wish (by omega) | exact sh_wor (by omega) | exact sh_bar (by omega) | exact sh_term (by omega) | exact sh_sheet (by omega) | exact sh_items (by omega) | exact sh_sums (by omega)) (vp_in_nI (by omega) (by decide)) (by decide) (el_house (by omega)) ?_
        refine wp_astore_n (pc := 15) dX11_told_15 (by decide) ?_
        refine wp_iload_n (pc := 16) dX11_told_16 (by first | rfl | assumption | (repeat first | assumption | rfl | refine aG_n ?_ rfl rfl)) ?_
        refine wp_swI (pc := 17) (j := 2) (off := 49) (tgt := 66) dX11_told_17 (by decide) (by decide) rfl rfl ?_
        refine wp_aload_n (pc := 66) dX11_told_66 (by first | rfl | assumption | (repeat first | assumption | rfl | refine aG_n ?_ rfl rfl)) ?_
        refine wp_getI (pc := 67) dX11_told_67 fl_11_152 (by first | rfl | assumption | exact sh_house (by omega) | exact sh_wish (by omega) | exact sh_wor (by omega) | exact sh_bar (by omega) | exact sh_term (by omega) | exact sh_sheet (by omega) | exact sh_items (by omega) | exact sh_sums (by omega)) rfl ?_
        refine wp_ireturn (pc := 70) dX11_told_70 rfl (by first | rfl | decide | assumption) ?_
        refine k _ _ (fun Q' k' => ?_)
        refine wp_iload_n (pc := 0) dX12_told_0 (by first | rfl | assumption | (repeat first | assumption | rfl | refine aG_n ?_ rfl rfl)) ?_
        refine wp_cS (pc := 1) dX12_told_1 lk_12_143 rfl rfl rfl (c_X12_isHouse (fun _ => aK_i ?_) (fun q => absurd (by assumption) q))
        refine wp_if_eq (pc := 4) (tgt := 19) dX12_told_4 rfl (fun q => absurd q (by decide)) (fun _ => ?_)
        refine wp_iload_n (pc := 7) dX12_told_7 (by first | rfl | assumption | (repeat first | assumption | rfl | refine aG_n ?_ rfl rfl)) ?_
        refine wp_i2l (pc := 8) dX12_told_8 ?_
        refine wp_lconst (pc := 9) (v := 0) dX12_told_9 (by decide) ?_
        refine wp_ldc2 (pc := 10) dX12_told_10 cl_12_141 ?_
        refine wp_cS (pc := 13) dX12_told_13 lk_12_133 rfl rfl rfl (c_X12_in (fun _ => aK_i ?_) (fun q => absurd (by rw [w_int]; exact c2) q))
        refine wp_if_ne (pc := 16) (tgt := 21) dX12_told_16 rfl (fun _ => ?_) (fun q => absurd q (by decide))
        refine wp_iload_n (pc := 21) dX12_told_21 (by first | rfl | assumption | (repeat first | assumption | rfl | refine aG_n ?_ rfl rfl)) ?_
        refine wp_if_ne (pc := 22) (tgt := 33) dX12_told_22 rfl (fun _ => ?_) (fun q => absurd q (by decide))
        refine wp_iload_n (pc := 33) dX12_told_33 (by first | rfl | assumption | (repeat first | assumption | rfl | refine aG_n ?_ rfl rfl)) ?_
        refine wp_iconst (pc := 34) (v := 1) dX12_told_34 (by decide) ?_
        refine wp_icmp_ne (pc := 35) (tgt := 47) dX12_told_35 rfl (fun _ => ?_) (fun q => absurd q (by decide))
        refine wp_iload_n (pc := 47) dX12_told_47 (by first | rfl | assumption | (repeat first | assumption | rfl | refine aG_n ?_ rfl rfl)) ?_
        refine wp_iconst (pc := 48) (v := 2) dX12_told_48 (by decide) ?_
        refine wp_icmp_ne (pc := 49) (tgt := 61) dX12_told_49 rfl (fun q => absurd q (by decide)) (fun _ => ?_)
        refine wp_aload_n (pc := 52) dX12_told_52 (by first | rfl | assumption | (repeat first | assumption | rfl | refine aG_n ?_ rfl rfl)) ?_
        refine wp_getR (pc := 53) dX12_told_53 fl_12_16 (by first | rfl | assumption | exact sh_house (by omega) | exact sh_wish (by omega) | exact sh_wor (by omega) | exact sh_bar (by omega) | exact sh_term (by omega) | exact sh_sheet (by omega) | exact sh_items (by omega) | exact sh_sums (by omega)) rfl ?_
        refine wp_iload_n (pc := 56) dX12_told_56 (by first | rfl | assumption | (repeat first | assumption | rfl | refine aG_n ?_ rfl rfl)) ?_
        refine wp_iald (pc := 57) dX12_told_57 (by first | rfl | assumption | exact sh_house (by omega) | exact sh_wish (by omega) | exact sh_wor (by omega) | exact sh_bar (by omega) | exact sh_term (by omega) | exact sh_sheet (by omega) | exact sh_items (by omega) | exact sh_sums (by omega)) (vp_in_nI (by omega) (by decide)) ?_
        refine wp_goto (pc := 58) (tgt := 95) dX12_told_58 rfl ?_
        refine wp_ireturn (pc := 95) dX12_told_95 rfl (by first | rfl | decide | assumption) ?_
        refine qEq ?_ (k' _ hI)
        rw [nI_clamp (by omega)]
        exact (hI.2.2.1 i (by omega)).1.1.symm
      | 3, _ =>
        refine wp_iload_n (pc := 0) dX11_told_0 (by first | rfl | assumption | (repeat first | assumption | rfl | refine aG_n ?_ rfl rfl)) ?_
        refine wp_cS (pc := 1) dX11_told_1 lk_11_101 rfl rfl rfl (c_X11_isHouse (fun _ => aK_i ?_) (fun q => absurd (by assumption) q))
        refine wp_if_ne (pc := 4) (tgt := 9) dX11_told_4 rfl (fun _ => ?_) (fun q => absurd q (by decide))
        refine wp_aload_n (pc := 9) dX11_told_9 (by first | rfl | assumption | (repeat first | assumption | rfl | refine aG_n ?_ rfl rfl)) ?_
        refine wp_getR (pc := 10) dX11_told_10 fl_11_11 (by first | rfl | assumption | exact sh_house (by omega) | exact sh_wish (by omega) | exact sh_wor (by omega) | exact sh_bar (by omega) | exact sh_term (by omega) | exact sh_sheet (by omega) | exact sh_items (by omega) | exact sh_sums (by omega)) rfl ?_
        refine wp_iload_n (pc := 13) dX11_told_13 (by first | rfl | assumption | (repeat first | assumption | rfl | refine aG_n ?_ rfl rfl)) ?_
        refine wp_aald (pc := 14) dX11_told_14 (by first | rfl | assumption | exact sh_house (by omega) | exact sh_wish (by omega) | exact sh_wor (by omega) | exact sh_bar (by omega) | exact sh_term (by omega) | exact sh_sheet (by omega) | exact sh_items (by omega) | exact sh_sums (by omega)) (vp_in_nI (by omega) (by decide)) (by decide) (el_house (by omega)) ?_
        refine wp_astore_n (pc := 15) dX11_told_15 (by decide) ?_
        refine wp_iload_n (pc := 16) dX11_told_16 (by first | rfl | assumption | (repeat first | assumption | rfl | refine aG_n ?_ rfl rfl)) ?_
        refine wp_swI (pc := 17) (j := 3) (off := 54) (tgt := 71) dX11_told_17 (by decide) (by decide) rfl rfl ?_
        refine wp_aload_n (pc := 71) dX11_told_71 (by first | rfl | assumption | (repeat first | assumption | rfl | refine aG_n ?_ rfl rfl)) ?_
        refine wp_getI (pc := 72) dX11_told_72 fl_11_155 (by first | rfl | assumption | exact sh_house (by omega) | exact sh_wish (by omega) | exact sh_wor (by omega) | exact sh_bar (by omega) | exact sh_term (by omega) | exact sh_sheet (by omega) | exact sh_items (by omega) | exact sh_sums (by omega)) rfl ?_
        refine wp_ireturn (pc := 75) dX11_told_75 rfl (by first | rfl | decide | assumption) ?_
        refine k _ _ (fun Q' k' => ?_)
        refine wp_iload_n (pc := 0) dX12_told_0 (by first | rfl | assumption | (repeat first | assumption | rfl | refine aG_n ?_ rfl rfl)) ?_
        refine wp_cS (pc := 1) dX12_told_1 lk_12_143 rfl rfl rfl (c_X12_isHouse (fun _ => aK_i ?_) (fun q => absurd (by assumption) q))
        refine wp_if_eq (pc := 4) (tgt := 19) dX12_told_4 rfl (fun q => absurd q (by decide)) (fun _ => ?_)
        refine wp_iload_n (pc := 7) dX12_told_7 (by first | rfl | assumption | (repeat first | assumption | rfl | refine aG_n ?_ rfl rfl)) ?_
        refine wp_i2l (pc := 8) dX12_told_8 ?_
        refine wp_lconst (pc := 9) (v := 0) dX12_told_9 (by decide) ?_
        refine wp_ldc2 (pc := 10) dX12_told_10 cl_12_141 ?_
        refine wp_cS (pc := 13) dX12_told_13 lk_12_133 rfl rfl rfl (c_X12_in (fun _ => aK_i ?_) (fun q => absurd (by rw [w_int]; exact c2) q))
        refine wp_if_ne (pc := 16) (tgt := 21) dX12_told_16 rfl (fun _ => ?_) (fun q => absurd q (by decide))
        refine wp_iload_n (pc := 21) dX12_told_21 (by first | rfl | assumption | (repeat first | assumption | rfl | refine aG_n ?_ rfl rfl)) ?_
        refine wp_if_ne (pc := 22) (tgt := 33) dX12_told_22 rfl (fun _ => ?_) (fun q => absurd q (by decide))
        refine wp_iload_n (pc := 33) dX12_told_33 (by first | rfl | assumption | (repeat first | assumption | rfl | refine aG_n ?_ rfl rfl)) ?_
        refine wp_iconst (pc := 34) (v := 1) dX12_told_34 (by decide) ?_
        refine wp_icmp_ne (pc := 35) (tgt := 47) dX12_told_35 rfl (fun _ => ?_) (fun q => absurd q (by decide))
        refine wp_iload_n (pc := 47) dX12_told_47 (by first | rfl | assumption | (repeat first | assumption | rfl | refine aG_n ?_ rfl rfl)) ?_
        refine wp_iconst (pc := 48) (v := 2) dX12_told_48 (by decide) ?_
        refine wp_icmp_ne (pc := 49) (tgt := 61) dX12_told_49 rfl (fun _ => ?_) (fun q => absurd q (by decide))
        refine wp_iload_n (pc := 61) dX12_told_61 (by first | rfl | assumption | (repeat first | assumption | rfl | refine aG_n ?_ rfl rfl)) ?_
        refine wp_iconst (pc := 62) (v := 3) dX12_told_62 (by decide) ?_
        refine wp_icmp_ne (pc := 63) (tgt := 75) dX12_told_63 rfl (fun q => absurd q (by decide)) (fun _ => ?_)
        refine wp_aload_n (pc := 66) dX12_told_66 (by first | rfl | assumption | (repeat first | assumption | rfl | refine aG_n ?_ rfl rfl)) ?_
        refine wp_getR (pc := 67) dX12_told_67 fl_12_19 (by first | rfl | assumption | exact sh_house (by omega) | exact sh_wish (by omega) | exact sh_wor (by omega) | exact sh_bar (by omega) | exact sh_term (by omega) | exact sh_sheet (by omega) | exact sh_items (by omega) | exact sh_sums (by omega)) rfl ?_
        refine wp_iload_n (pc := 70) dX12_told_70 (by first | rfl | assumption | (repeat first | assumption | rfl | refine aG_n ?_ rfl rfl)) ?_
        refine wp_iald (pc := 71) dX12_told_71 (by first | rfl | assumption | exact sh_house (by omega) | exact sh_wish (by omega) | exact sh_wor (by omega) | exact sh_bar (by omega) | exact sh_term (by omega) | exact sh_sheet (by omega) | exact sh_items (by omega) | exact sh_sums (by omega)) (vp_in_nI (by omega) (by decide)) ?_
        refine wp_goto (pc := 72) (tgt := 95) dX12_told_72 rfl ?_
        refine wp_ireturn (pc := 95) dX12_told_95 rfl (by first | rfl | decide | assumption) ?_
        refine qEq ?_ (k' _ hI)
        rw [nI_clamp (by omega)]
        exact (hI.2.2.1 i (by omega)).2.1.1.symm
      | 4, _ =>
        refine wp_iload_n (pc := 0) dX11_told_0 (by first | rfl | assumption | (repeat first | assumption | rfl | refine aG_n ?_ rfl rfl)) ?_
        refine wp_cS (pc := 1) dX11_told_1 lk_11_101 rfl rfl rfl (c_X11_isHouse (fun _ => aK_i ?_) (fun q => absurd (by assumption) q))
        refine wp_if_ne (pc := 4) (tgt := 9) dX11_told_4 rfl (fun _ => ?_) (fun q => absurd q (by decide))
        refine wp_aload_n (pc := 9) dX11_told_9 (by first | rfl | assumption | (repeat first | assumption | rfl | refine aG_n ?_ rfl rfl)) ?_
        refine wp_getR (pc := 10) dX11_told_10 fl_11_11 (by first | rfl | assumption | exact sh_house (by omega) | exact sh_wish (by omega) | exact sh_wor (by omega) | exact sh_bar (by omega) | exact sh_term (by omega) | exact sh_sheet (by omega) | exact sh_items (by omega) | exact sh_sums (by omega)) rfl ?_
        refine wp_iload_n (pc := 13) dX11_told_13 (by first | rfl | assumption | (repeat first | assumption | rfl | refine aG_n ?_ rfl rfl)) ?_
        refine wp_aald (pc := 14) dX11_told_14 (by first | rfl | assumption | exact sh_house (by omega) | exact sh_wish (by omega) | exact sh_wor (by omega) | exact sh_bar (by omega) | exact sh_term (by omega) | exact sh_sheet (by omega) | exact sh_items (by omega) | exact sh_sums (by omega)) (vp_in_nI (by omega) (by decide)) (by decide) (el_house (by omega)) ?_
        refine wp_astore_n (pc := 15) dX11_told_15 (by decide) ?_
        refine wp_iload_n (pc := 16) dX11_told_16 (by first | rfl | assumption | (repeat first | assumption | rfl | refine aG_n ?_ rfl rfl)) ?_
        refine wp_swI (pc := 17) (j := 4) (off := 59) (tgt := 76) dX11_told_17 (by decide) (by decide) rfl rfl ?_
        refine wp_aload_n (pc := 76) dX11_told_76 (by first | rfl | assumption | (repeat first | assumption | rfl | refine aG_n ?_ rfl rfl)) ?_
        refine wp_getI (pc := 77) dX11_told_77 fl_11_158 (by first | rfl | assumption | exact sh_house (by omega) | exact sh_wish (by omega) | exact sh_wor (by omega) | exact sh_bar (by omega) | exact sh_term (by omega) | exact sh_sheet (by omega) | exact sh_items (by omega) | exact sh_sums (by omega)) rfl ?_
        refine wp_ireturn (pc := 80) dX11_told_80 rfl (by first | rfl | decide | assumption) ?_
        refine k _ _ (fun Q' k' => ?_)
        refine wp_iload_n (pc := 0) dX12_told_0 (by first | rfl | assumption | (repeat first | assumption | rfl | refine aG_n ?_ rfl rfl)) ?_
        refine wp_cS (pc := 1) dX12_told_1 lk_12_143 rfl rfl rfl (c_X12_isHouse (fun _ => aK_i ?_) (fun q => absurd (by assumption) q))
        refine wp_if_eq (pc := 4) (tgt := 19) dX12_told_4 rfl (fun q => absurd q (by decide)) (fun _ => ?_)
        refine wp_iload_n (pc := 7) dX12_told_7 (by first | rfl | assumption | (repeat first | assumption | rfl | refine aG_n ?_ rfl rfl)) ?_
        refine wp_i2l (pc := 8) dX12_told_8 ?_
        refine wp_lconst (pc := 9) (v := 0) dX12_told_9 (by decide) ?_
        refine wp_ldc2 (pc := 10) dX12_told_10 cl_12_141 ?_
        refine wp_cS (pc := 13) dX12_told_13 lk_12_133 rfl rfl rfl (c_X12_in (fun _ => aK_i ?_) (fun q => absurd (by rw [w_int]; exact c2) q))
        refine wp_if_ne (pc := 16) (tgt := 21) dX12_told_16 rfl (fun _ => ?_) (fun q => absurd q (by decide))
        refine wp_iload_n (pc := 21) dX12_told_21 (by first | rfl | assumption | (repeat first | assumption | rfl | refine aG_n ?_ rfl rfl)) ?_
        refine wp_if_ne (pc := 22) (tgt := 33) dX12_told_22 rfl (fun _ => ?_) (fun q => absurd q (by decide))
        refine wp_iload_n (pc := 33) dX12_told_33 (by first | rfl | assumption | (repeat first | assumption | rfl | refine aG_n ?_ rfl rfl)) ?_
        refine wp_iconst (pc := 34) (v := 1) dX12_told_34 (by decide) ?_
        refine wp_icmp_ne (pc := 35) (tgt := 47) dX12_told_35 rfl (fun _ => ?_) (fun q => absurd q (by decide))
        refine wp_iload_n (pc := 47) dX12_told_47 (by first | rfl | assumption | (repeat first | assumption | rfl | refine aG_n ?_ rfl rfl)) ?_
        refine wp_iconst (pc := 48) (v := 2) dX12_told_48 (by decide) ?_
        refine wp_icmp_ne (pc := 49) (tgt := 61) dX12_told_49 rfl (fun _ => ?_) (fun q => absurd q (by decide))
        refine wp_iload_n (pc := 61) dX12_told_61 (by first | rfl | assumption | (repeat first | assumption | rfl | refine aG_n ?_ rfl rfl)) ?_
        refine wp_iconst (pc := 62) (v := 3) dX12_told_62 (by decide) ?_
        refine wp_icmp_ne (pc := 63) (tgt := 75) dX12_told_63 rfl (fun _ => ?_) (fun q => absurd q (by decide))
        refine wp_iload_n (pc := 75) dX12_told_75 (by first | rfl | assumption | (repeat first | assumption | rfl | refine aG_n ?_ rfl rfl)) ?_
        refine wp_iconst (pc := 76) (v := 4) dX12_told_76 (by decide) ?_
        refine wp_icmp_ne (pc := 77) (tgt := 89) dX12_told_77 rfl (fun q => absurd q (by decide)) (fun _ => ?_)
        refine wp_aload_n (pc := 80) dX12_told_80 (by first | rfl | assumption | (repeat first | assumption | rfl | refine aG_n ?_ rfl rfl)) ?_
        refine wp_getR (pc := 81) dX12_told_81 fl_12_22 (by first | rfl | assumption | exact sh_house (by omega) | exact sh_wish (by omega) | exact sh_wor (by omega) | exact sh_bar (by omega) | exact sh_term (by omega) | exact sh_sheet (by omega) | exact sh_items (by omega) | exact sh_sums (by omega)) rfl ?_
        refine wp_iload_n (pc := 84) dX12_told_84 (by first | rfl | assumption | (repeat first | assumption | rfl | refine aG_n ?_ rfl rfl)) ?_
        refine wp_iald (pc := 85) dX12_told_85 (by first | rfl | assumption | exact sh_house (by omega) | exact sh_wish (by omega) | exact sh_wor (by omega) | exact sh_bar (by omega) | exact sh_term (by omega) | exact sh_sheet (by omega) | exact sh_items (by omega) | exact sh_sums (by omega)) (vp_in_nI (by omega) (by decide)) ?_
        refine wp_goto (pc := 86) (tgt := 95) dX12_told_86 rfl ?_
        refine wp_ireturn (pc := 95) dX12_told_95 rfl (by first | rfl | decide | assumption) ?_
        refine qEq ?_ (k' _ hI)
        rw [nI_clamp (by omega)]
        exact (hI.2.2.1 i (by omega)).2.2.1.symm
      | 5, _ =>
        obtain ⟨n, hn, w1, w2, -, -⟩ := hI.2.2.2.1 i (by omega)
        refine wp_iload_n (pc := 0) dX11_told_0 (by first | rfl | assumption | (repeat first | assumption | rfl | refine aG_n ?_ rfl rfl)) ?_
        refine wp_cS (pc := 1) dX11_told_1 lk_11_101 rfl rfl rfl (c_X11_isHouse (fun _ => aK_i ?_) (fun q => absurd (by assumption) q))
        refine wp_if_ne (pc := 4) (tgt := 9) dX11_told_4 rfl (fun _ => ?_) (fun q => absurd q (by decide))
        refine wp_aload_n (pc := 9) dX11_told_9 (by first | rfl | assumption | (repeat first | assumption | rfl | refine aG_n ?_ rfl rfl)) ?_
        refine wp_getR (pc := 10) dX11_told_10 fl_11_11 (by first | rfl | assumption | exact sh_house (by omega) | exact sh_wish (by omega) | exact sh_wor (by omega) | exact sh_bar (by omega) | exact sh_term (by omega) | exact sh_sheet (by omega) | exact sh_items (by omega) | exact sh_sums (by omega)) rfl ?_
        refine wp_iload_n (pc := 13) dX11_told_13 (by first | rfl | assumption | (repeat first | assumption | rfl | refine aG_n ?_ rfl rfl)) ?_
        refine wp_aald (pc := 14) dX11_told_14 (by first | rfl | assumption | exact sh_house (by omega) | exact sh_wish (by omega) | exact sh_wor (by omega) | exact sh_bar (by omega) | exact sh_term (by omega) | exact sh_sheet (by omega) | exact sh_items (by omega) | exact sh_sums (by omega)) (vp_in_nI (by omega) (by decide)) (by decide) (el_house (by omega)) ?_
        refine wp_astore_n (pc := 15) dX11_told_15 (by decide) ?_
        refine wp_iload_n (pc := 16) dX11_told_16 (by first | rfl | assumption | (repeat first | assumption | rfl | refine aG_n ?_ rfl rfl)) ?_
        refine wp_swI (pc := 17) (j := 5) (off := 64) (tgt := 81) dX11_told_17 (by decide) (by decide) rfl rfl ?_
        refine wp_aload_n (pc := 81) dX11_told_81 (by first | rfl | assumption | (repeat first | assumption | rfl | refine aG_n ?_ rfl rfl)) ?_
        refine wp_getR (pc := 82) dX11_told_82 fl_11_127 (by first | rfl | assumption | exact sh_house (by omega) | exact sh_wish (by omega) | exact sh_wor (by omega) | exact sh_bar (by omega) | exact sh_term (by omega) | exact sh_sheet (by omega) | exact sh_items (by omega) | exact sh_sums (by omega)) rfl ?_
        refine wp_getI (pc := 85) dX11_told_85 fl_11_161 (by first | rfl | assumption | exact sh_house (by omega) | exact sh_wish (by omega) | exact sh_wor (by omega) | exact sh_bar (by omega) | exact sh_term (by omega) | exact sh_sheet (by omega) | exact sh_items (by omega) | exact sh_sums (by omega)) rfl ?_
        refine wp_ireturn (pc := 88) dX11_told_88 rfl (by first | rfl | decide | assumption) ?_
        refine k _ _ (fun Q' k' => ?_)
        refine wp_iload_n (pc := 0) dX12_told_0 (by first | rfl | assumption | (repeat first | assumption | rfl | refine aG_n ?_ rfl rfl)) ?_
        refine wp_cS (pc := 1) dX12_told_1 lk_12_143 rfl rfl rfl (c_X12_isHouse (fun _ => aK_i ?_) (fun q => absurd (by assumption) q))
        refine wp_if_eq (pc := 4) (tgt := 19) dX12_told_4 rfl (fun q => absurd q (by decide)) (fun _ => ?_)
        refine wp_iload_n (pc := 7) dX12_told_7 (by first | rfl | assumption | (repeat first | assumption | rfl | refine aG_n ?_ rfl rfl)) ?_
        refine wp_i2l (pc := 8) dX12_told_8 ?_
        refine wp_lconst (pc := 9) (v := 0) dX12_told_9 (by decide) ?_
        refine wp_ldc2 (pc := 10) dX12_told_10 cl_12_141 ?_
        refine wp_cS (pc := 13) dX12_told_13 lk_12_133 rfl rfl rfl (c_X12_in (fun _ => aK_i ?_) (fun q => absurd (by rw [w_int]; exact c2) q))
        refine wp_if_ne (pc := 16) (tgt := 21) dX12_told_16 rfl (fun _ => ?_) (fun q => absurd q (by decide))
        refine wp_iload_n (pc := 21) dX12_told_21 (by first | rfl | assumption | (repeat first | assumption | rfl | refine aG_n ?_ rfl rfl)) ?_
        refine wp_if_ne (pc := 22) (tgt := 33) dX12_told_22 rfl (fun _ => ?_) (fun q => absurd q (by decide))
        refine wp_iload_n (pc := 33) dX12_told_33 (by first | rfl | assumption | (repeat first | assumption | rfl | refine aG_n ?_ rfl rfl)) ?_
        refine wp_iconst (pc := 34) (v := 1) dX12_told_34 (by decide) ?_
        refine wp_icmp_ne (pc := 35) (tgt := 47) dX12_told_35 rfl (fun _ => ?_) (fun q => absurd q (by decide))
        refine wp_iload_n (pc := 47) dX12_told_47 (by first | rfl | assumption | (repeat first | assumption | rfl | refine aG_n ?_ rfl rfl)) ?_
        refine wp_iconst (pc := 48) (v := 2) dX12_told_48 (by decide) ?_
        refine wp_icmp_ne (pc := 49) (tgt := 61) dX12_told_49 rfl (fun _ => ?_) (fun q => absurd q (by decide))
        refine wp_iload_n (pc := 61) dX12_told_61 (by first | rfl | assumption | (repeat first | assumption | rfl | refine aG_n ?_ rfl rfl)) ?_
        refine wp_iconst (pc := 62) (v := 3) dX12_told_62 (by decide) ?_
        refine wp_icmp_ne (pc := 63) (tgt := 75) dX12_told_63 rfl (fun _ => ?_) (fun q => absurd q (by decide))
        refine wp_iload_n (pc := 75) dX12_told_75 (by first | rfl | assumption | (repeat first | assumption | rfl | refine aG_n ?_ rfl rfl)) ?_
        refine wp_iconst (pc := 76) (v := 4) dX12_told_76 (by decide) ?_
        refine wp_icmp_ne (pc := 77) (tgt := 89) dX12_told_77 rfl (fun _ => ?_) (fun q => absurd q (by decide))
        refine wp_aload_n (pc := 89) dX12_told_89 (by first | rfl | assumption | (repeat first | assumption | rfl | refine aG_n ?_ rfl rfl)) ?_
        refine wp_getR (pc := 90) dX12_told_90 fl_12_25 (by first | rfl | assumption | exact sh_house (by omega) | exact sh_wish (by omega) | exact sh_wor (by omega) | exact sh_bar (by omega) | exact sh_term (by omega) | exact sh_sheet (by omega) | exact sh_items (by omega) | exact sh_sums (by omega)) rfl ?_
        refine wp_iload_n (pc := 93) dX12_told_93 (by first | rfl | assumption | (repeat first | assumption | rfl | refine aG_n ?_ rfl rfl)) ?_
        refine wp_iald (pc := 94) dX12_told_94 (by first | rfl | assumption | exact sh_house (by omega) | exact sh_wish (by omega) | exact sh_wor (by omega) | exact sh_bar (by omega) | exact sh_term (by omega) | exact sh_sheet (by omega) | exact sh_items (by omega) | exact sh_sums (by omega)) (vp_in_nI (by omega) (by decide)) ?_
        refine wp_ireturn (pc := 95) dX12_told_95 rfl (by first | rfl | decide | assumption) ?_
        refine qEq ?_ (k' _ hI)
        rw [nI_clamp (by omega)]
        exact w2.trans w1.symm
      | _ + 6, hj => omega
    · have c3 : w.toInt < 0 ∨ 5 < w.toInt := by unfold inR at c2; omega
      refine wp_iload_n (pc := 0) dX11_told_0 (by first | rfl | assumption | (repeat first | assumption | rfl | refine aG_n ?_ rfl rfl)) ?_
      refine wp_cS (pc := 1) dX11_told_1 lk_11_101 rfl rfl rfl (c_X11_isHouse (fun _ => aK_i ?_) (fun q => absurd (by assumption) q))
      refine wp_if_ne (pc := 4) (tgt := 9) dX11_told_4 rfl (fun _ => ?_) (fun q => absurd q (by decide))
      refine wp_aload_n (pc := 9) dX11_told_9 (by first | rfl | assumption | (repeat first | assumption | rfl | refine aG_n ?_ rfl rfl)) ?_
      refine wp_getR (pc := 10) dX11_told_10 fl_11_11 (by first | rfl | assumption | exact sh_house (by omega) | exact sh_wish (by omega) | exact sh_wor (by omega) | exact sh_bar (by omega) | exact sh_term (by omega) | exact sh_sheet (by omega) | exact sh_items (by omega) | exact sh_sums (by omega)) rfl ?_
      refine wp_iload_n (pc := 13) dX11_told_13 (by first | rfl | assumption | (repeat first | assumption | rfl | refine aG_n ?_ rfl rfl)) ?_
      refine wp_aald (pc := 14) dX11_told_14 (by first | rfl | assumption | exact sh_house (by omega) | exact sh_wish (by omega) | exact sh_wor (by omega) | exact sh_bar (by omega) | exact sh_term (by omega) | exact sh_sheet (by omega) | exact sh_items (by omega) | exact sh_sums (by omega)) (vp_in_nI (by omega) (by decide)) (by decide) (el_house (by omega)) ?_
      refine wp_astore_n (pc := 15) dX11_told_15 (by decide) ?_
      refine wp_iload_n (pc := 16) dX11_told_16 (by first | rfl | assumption | (repeat first | assumption | rfl | refine aG_n ?_ rfl rfl)) ?_
      refine wp_swD (pc := 17) (tgt := 89) dX11_told_17 c3 rfl ?_
      refine wp_iconst (pc := 89) (v := -1) dX11_told_89 (by decide) ?_
      refine wp_ireturn (pc := 90) dX11_told_90 rfl (by first | rfl | decide | assumption) ?_
      refine k _ _ (fun Q' k' => ?_)
      refine wp_iload_n (pc := 0) dX12_told_0 (by first | rfl | assumption | (repeat first | assumption | rfl | refine aG_n ?_ rfl rfl)) ?_
      refine wp_cS (pc := 1) dX12_told_1 lk_12_143 rfl rfl rfl (c_X12_isHouse (fun _ => aK_i ?_) (fun q => absurd (by assumption) q))
      refine wp_if_eq (pc := 4) (tgt := 19) dX12_told_4 rfl (fun q => absurd q (by decide)) (fun _ => ?_)
      refine wp_iload_n (pc := 7) dX12_told_7 (by first | rfl | assumption | (repeat first | assumption | rfl | refine aG_n ?_ rfl rfl)) ?_
      refine wp_i2l (pc := 8) dX12_told_8 ?_
      refine wp_lconst (pc := 9) (v := 0) dX12_told_9 (by decide) ?_
      refine wp_ldc2 (pc := 10) dX12_told_10 cl_12_141 ?_
      refine wp_cS (pc := 13) dX12_told_13 lk_12_133 rfl rfl rfl (c_X12_in (fun q => absurd q (by rw [w_int]; exact c2)) (fun _ => aK_i ?_))
      refine wp_if_ne (pc := 16) (tgt := 21) dX12_told_16 rfl (fun q => absurd q (by decide)) (fun _ => ?_)
      refine wp_iconst (pc := 19) (v := -1) dX12_told_19 (by decide) ?_
      refine wp_ireturn (pc := 20) dX12_told_20 rfl (by first | rfl | decide | assumption) ?_
      exact k' _ hI
  · refine wp_iload_n (pc := 0) dX11_told_0 (by first | rfl | assumption | (repeat first | assumption | rfl | refine aG_n ?_ rfl rfl)) ?_
    refine wp_cS (pc := 1) dX11_told_1 lk_11_101 rfl rfl rfl (c_X11_isHouse (fun q => absurd q c1) (fun _ => aK_i ?_))
    refine wp_if_ne (pc := 4) (tgt := 9) dX11_told_4 rfl (fun q => absurd q (by decide)) (fun _ => ?_)
    refine wp_iconst (pc := 7) (v := -1) dX11_told_7 (by decide) ?_
    refine wp_ireturn (pc := 8) dX11_told_8 rfl (by first | rfl | decide | assumption) ?_
    refine k _ _ (fun Q' k' => ?_)
    refine wp_iload_n (pc := 0) dX12_told_0 (by first | rfl | assumption | (repeat first | assumption | rfl | refine aG_n ?_ rfl rfl)) ?_
    refine wp_cS (pc := 1) dX12_told_1 lk_12_143 rfl rfl rfl (c_X12_isHouse (fun q => absurd q c1) (fun _ => aK_i ?_))
    refine wp_if_eq (pc := 4) (tgt := 19) dX12_told_4 rfl (fun _ => ?_) (fun q => absurd q (by decide))
    refine wp_iconst (pc := 19) (v := -1) dX12_told_19 (by decide) ?_
    refine wp_ireturn (pc := 20) dX12_told_20 rfl (by first | rfl | decide | assumption) ?_
    exact k' _ hI
theorem J_set (h w v : Int32) : Jnt mX11_set mX12_set [.int h, .int w, .int v] := by
  intro X μ Q hI k
  by_cases c1 : inR h 0 3
  · obtain ⟨i, hi, rfl⟩ := inR_of (n := 3) c1
    by_cases c2 : inR w 0 2
    · obtain ⟨j, hj, rfl⟩ := inR_of (n := 2) c2
      match j, hj with
      | 0, _ =>
        by_cases c3 : inR v 0 999
        · by_cases c4 : μ.1 73 0 = 1
          · have c5 : μ.1 86 15 = 1 := hI.2.2.2.2.2.1.1 ▸ c4
            refine wp_iload_n (pc := 0) dX11_set_0 (by first | rfl | assumption | (repeat first | assumption | rfl | refine aG_n ?_ rfl rfl)) ?_
            refine wp_cS (pc := 1) dX11_set_1 lk_11_101 rfl rfl rfl (c_X11_isHouse (fun _ => aK_i ?_) (fun q => absurd (by assumption) q))
            refine wp_if_eq (pc := 4) (tgt := 37) dX11_set_4 rfl (fun q => absurd q (by decide)) (fun _ => ?_)
            refine wp_iload_n (pc := 7) dX11_set_7 (by first | rfl | assumption | (repeat first | assumption | rfl | refine aG_n ?_ rfl rfl)) ?_
            refine wp_iconst (pc := 8) (v := 0) dX11_set_8 (by decide) ?_
            refine wp_iconst (pc := 9) (v := 2) dX11_set_9 (by decide) ?_
            refine wp_cS (pc := 10) dX11_set_10 lk_11_112 rfl rfl rfl (c_X11_isWithin (fun _ => aK_i ?_) (fun q => absurd c2 q))
            refine wp_if_eq (pc := 13) (tgt := 37) dX11_set_13 rfl (fun q => absurd q (by decide)) (fun _ => ?_)
            refine wp_iload_n (pc := 16) dX11_set_16 (by first | rfl | assumption | (repeat first | assumption | rfl | refine aG_n ?_ rfl rfl)) ?_
            refine wp_iconst (pc := 17) (v := 0) dX11_set_17 (by decide) ?_
            refine wp_iload_n (pc := 18) dX11_set_18 (by first | rfl | assumption | (repeat first | assumption | rfl | refine aG_n ?_ rfl rfl)) ?_
            refine wp_iconst (pc := 19) (v := 2) dX11_set_19 (by decide) ?_
            refine wp_icmp_ne (pc := 20) (tgt := 28) dX11_set_20 rfl (fun _ => ?_) (fun q => absurd q (by decide))
            refine wp_sipush (pc := 28) (v := 999) dX11_set_28 (by decide) ?_
            refine wp_cS (pc := 31) dX11_set_31 lk_11_112 rfl rfl rfl (c_X11_isWithin (fun _ => aK_i ?_) (fun q => absurd c3 q))
            refine wp_if_ne (pc := 34) (tgt := 39) dX11_set_34 rfl (fun _ => ?_) (fun q => absurd q (by decide))
            refine wp_aload_n (pc := 39) dX11_set_39 (by first | rfl | assumption | (repeat first | assumption | rfl | refine aG_n ?_ rfl rfl)) ?_
            refine wp_getR (pc := 40) dX11_set_40 fl_11_92 (by first | rfl | assumption | exact sh_house (by omega) | exact sh_wish (by omega) | exact sh_wor (by omega) | exact sh_bar (by omega) | exact sh_term (by omega) | exact sh_sheet (by omega) | exact sh_items (by omega) | exact sh_sums (by omega)) rfl ?_
            refine wp_cV (pc := 43) dX11_set_43 lk_11_104 rfl (by decide) rfl (by first | rfl | assumption | exact sh_house (by omega) | exact sh_wish (by omega) | exact sh_wor (by omega) | exact sh_bar (by omega) | exact sh_term (by omega) | exact sh_sheet (by omega) | exact sh_items (by omega) | exact sh_sums (by omega)) rfl rfl (c_X7_isOpen (fun _ => aK_i ?_) (fun q => absurd c4 q))
            refine wp_if_eq (pc := 46) (tgt := 52) dX11_set_46 rfl (fun q => absurd q (by decide)) (fun _ => ?_)
            refine wp_bipush (pc := 49) (v := -2) dX11_set_49 (by decide) ?_
            refine wp_ireturn (pc := 51) dX11_set_51 rfl (by first | rfl | decide | assumption) ?_
            refine k _ _ (fun Q' k' => ?_)
            refine wp_iload_n (pc := 0) dX12_set_0 (by first | rfl | assumption | (repeat first | assumption | rfl | refine aG_n ?_ rfl rfl)) ?_
            refine wp_cS (pc := 1) dX12_set_1 lk_12_143 rfl rfl rfl (c_X12_isHouse (fun _ => aK_i ?_) (fun q => absurd (by assumption) q))
            refine wp_if_eq (pc := 4) (tgt := 42) dX12_set_4 rfl (fun q => absurd q (by decide)) (fun _ => ?_)
            refine wp_iload_n (pc := 7) dX12_set_7 (by first | rfl | assumption | (repeat first | assumption | rfl | refine aG_n ?_ rfl rfl)) ?_
            refine wp_i2l (pc := 8) dX12_set_8 ?_
            refine wp_lconst (pc := 9) (v := 0) dX12_set_9 (by decide) ?_
            refine wp_ldc2 (pc := 10) dX12_set_10 cl_12_212 ?_
            refine wp_cS (pc := 13) dX12_set_13 lk_12_133 rfl rfl rfl (c_X12_in (fun _ => aK_i ?_) (fun q => absurd (by rw [w_int]; exact c2) q))
            refine wp_if_eq (pc := 16) (tgt := 42) dX12_set_16 rfl (fun q => absurd q (by decide)) (fun _ => ?_)
            refine wp_iload_n (pc := 19) dX12_set_19 (by first | rfl | assumption | (repeat first | assumption | rfl | refine aG_n ?_ rfl rfl)) ?_
            refine wp_i2l (pc := 20) dX12_set_20 ?_
            refine wp_lconst (pc := 21) (v := 0) dX12_set_21 (by decide) ?_
            refine wp_iload_n (pc := 22) dX12_set_22 (by first | rfl | assumption | (repeat first | assumption | rfl | refine aG_n ?_ rfl rfl)) ?_
            refine wp_iconst (pc := 23) (v := 2) dX12_set_23 (by decide) ?_
            refine wp_icmp_ne (pc := 24) (tgt := 33) dX12_set_24 rfl (fun _ => ?_) (fun q => absurd q (by decide))
            refine wp_ldc2 (pc := 33) dX12_set_33 cl_12_216 ?_
            refine wp_cS (pc := 36) dX12_set_36 lk_12_133 rfl rfl rfl (c_X12_in (fun _ => aK_i ?_) (fun q => absurd (by rw [w_int]; exact c3) q))
            refine wp_if_ne (pc := 39) (tgt := 44) dX12_set_39 rfl (fun _ => ?_) (fun q => absurd q (by decide))
            refine wp_aload_n (pc := 44) dX12_set_44 (by first | rfl | assumption | (repeat first | assumption | rfl | refine aG_n ?_ rfl rfl)) ?_
            refine wp_cV (pc := 45) dX12_set_45 lk_12_147 rfl (by decide) rfl (by first | rfl | assumption | exact sh_house (by omega) | exact sh_wish (by omega) | exact sh_wor (by omega) | exact sh_bar (by omega) | exact sh_term (by omega) | exact sh_sheet (by omega) | exact sh_items (by omega) | exact sh_sums (by omega)) rfl rfl (c_X12_isTalking (fun _ => aK_i ?_) (fun q => absurd c5 q))
            refine wp_if_eq (pc := 48) (tgt := 54) dX12_set_48 rfl (fun q => absurd q (by decide)) (fun _ => ?_)
            refine wp_bipush (pc := 51) (v := -2) dX12_set_51 (by decide) ?_
            refine wp_ireturn (pc := 53) dX12_set_53 rfl (by first | rfl | decide | assumption) ?_
            exact k' _ hI
          · have c5 : ¬ μ.1 86 15 = 1 := fun z => c4 (hI.2.2.2.2.2.1.1.trans z)
            refine wp_iload_n (pc := 0) dX11_set_0 (by first | rfl | assumption | (repeat first | assumption | rfl | refine aG_n ?_ rfl rfl)) ?_
            refine wp_cS (pc := 1) dX11_set_1 lk_11_101 rfl rfl rfl (c_X11_isHouse (fun _ => aK_i ?_) (fun q => absurd (by assumption) q))
            refine wp_if_eq (pc := 4) (tgt := 37) dX11_set_4 rfl (fun q => absurd q (by decide)) (fun _ => ?_)
            refine wp_iload_n (pc := 7) dX11_set_7 (by first | rfl | assumption | (repeat first | assumption | rfl | refine aG_n ?_ rfl rfl)) ?_
            refine wp_iconst (pc := 8) (v := 0) dX11_set_8 (by decide) ?_
            refine wp_iconst (pc := 9) (v := 2) dX11_set_9 (by decide) ?_
            refine wp_cS (pc := 10) dX11_set_10 lk_11_112 rfl rfl rfl (c_X11_isWithin (fun _ => aK_i ?_) (fun q => absurd c2 q))
            refine wp_if_eq (pc := 13) (tgt := 37) dX11_set_13 rfl (fun q => absurd q (by decide)) (fun _ => ?_)
            refine wp_iload_n (pc := 16) dX11_set_16 (by first | rfl | assumption | (repeat first | assumption | rfl | refine aG_n ?_ rfl rfl)) ?_
            refine wp_iconst (pc := 17) (v := 0) dX11_set_17 (by decide) ?_
            refine wp_iload_n (pc := 18) dX11_set_18 (by first | rfl | assumption | (repeat first | assumption | rfl | refine aG_n ?_ rfl rfl)) ?_
            refine wp_iconst (pc := 19) (v := 2) dX11_set_19 (by decide) ?_
            refine wp_icmp_ne (pc := 20) (tgt := 28) dX11_set_20 rfl (fun _ => ?_) (fun q => absurd q (by decide))
            refine wp_sipush (pc := 28) (v := 999) dX11_set_28 (by decide) ?_
            refine wp_cS (pc := 31) dX11_set_31 lk_11_112 rfl rfl rfl (c_X11_isWithin (fun _ => aK_i ?_) (fun q => absurd c3 q))
            refine wp_if_ne (pc := 34) (tgt := 39) dX11_set_34 rfl (fun _ => ?_) (fun q => absurd q (by decide))
            refine wp_aload_n (pc := 39) dX11_set_39 (by first | rfl | assumption | (repeat first | assumption | rfl | refine aG_n ?_ rfl rfl)) ?_
            refine wp_getR (pc := 40) dX11_set_40 fl_11_92 (by first | rfl | assumption | exact sh_house (by omega) | exact sh_wish (by omega) | exact sh_wor (by omega) | exact sh_bar (by omega) | exact sh_term (by omega) | exact sh_sheet (by omega) | exact sh_items (by omega) | exact sh_sums (by omega)) rfl ?_
            refine wp_cV (pc := 43) dX11_set_43 lk_11_104 rfl (by decide) rfl (by first | rfl | assumption | exact sh_house (by omega) | exact sh_wish (by omega) | exact sh_wor (by omega) | exact sh_bar (by omega) | exact sh_term (by omega) | exact sh_sheet (by omega) | exact sh_items (by omega) | exact sh_sums (by omega)) rfl rfl (c_X7_isOpen (fun q => absurd q c4) (fun _ => aK_i ?_))
            refine wp_if_eq (pc := 46) (tgt := 52) dX11_set_46 rfl (fun _ => ?_) (fun q => absurd q (by decide))
            refine wp_aload_n (pc := 52) dX11_set_52 (by first | rfl | assumption | (repeat first | assumption | rfl | refine aG_n ?_ rfl rfl)) ?_
            refine wp_getR (pc := 53) dX11_set_53 fl_11_11 (by first | rfl | assumption | exact sh_house (by omega) | exact sh_wish (by omega) | exact sh_wor (by omega) | exact sh_bar (by omega) | exact sh_term (by omega) | exact sh_sheet (by omega) | exact sh_items (by omega) | exact sh_sums (by omega)) rfl ?_
            refine wp_iload_n (pc := 56) dX11_set_56 (by first | rfl | assumption | (repeat first | assumption | rfl | refine aG_n ?_ rfl rfl)) ?_
            refine wp_aald (pc := 57) dX11_set_57 (by first | rfl | assumption | exact sh_house (by omega) | exact sh_wish (by omega) | exact sh_wor (by omega) | exact sh_bar (by omega) | exact sh_term (by omega) | exact sh_sheet (by omega) | exact sh_items (by omega) | exact sh_sums (by omega)) (vp_in_nI (by omega) (by decide)) (by decide) (el_house (by omega)) ?_
            refine wp_iload_n (pc := 58) dX11_set_58 (by first | rfl | assumption | (repeat first | assumption | rfl | refine aG_n ?_ rfl rfl)) ?_
            refine wp_iload_n (pc := 59) dX11_set_59 (by first | rfl | assumption | (repeat first | assumption | rfl | refine aG_n ?_ rfl rfl)) ?_
            refine wp_cV (pc := 60) dX11_set_60 lk_11_164 rfl (by decide) rfl (by first | rfl | assumption | exact sh_house (by omega) | exact sh_wish (by omega) | exact sh_wor (by omega) | exact sh_bar (by omega) | exact sh_term (by omega) | exact sh_sheet (by omega) | exact sh_items (by omega) | exact sh_sums (by omega)) rfl rfl ?_
            refine wp_iload_n (pc := 0) dX1_change_0 (by first | rfl | assumption | (repeat first | assumption | rfl | refine aG_n ?_ rfl rfl)) ?_
            refine wp_if_ne (pc := 1) (tgt := 17) dX1_change_1 rfl (fun q => absurd q (by decide)) (fun _ => ?_)
            refine wp_aload_n (pc := 4) dX1_change_4 (by first | rfl | assumption | (repeat first | assumption | rfl | refine aG_n ?_ rfl rfl)) ?_
            refine wp_getI (pc := 5) dX1_change_5 fl_1_26 (by first | rfl | assumption | exact sh_house (by omega) | exact sh_wish (by omega) | exact sh_wor (by omega) | exact sh_bar (by omega) | exact sh_term (by omega) | exact sh_sheet (by omega) | exact sh_items (by omega) | exact sh_sums (by omega)) rfl ?_
            refine wp_istore_n (pc := 8) dX1_change_8 (by decide) ?_
            refine wp_aload_n (pc := 9) dX1_change_9 (by first | rfl | assumption | (repeat first | assumption | rfl | refine aG_n ?_ rfl rfl)) ?_
            refine wp_iload_n (pc := 10) dX1_change_10 (by first | rfl | assumption | (repeat first | assumption | rfl | refine aG_n ?_ rfl rfl)) ?_
            refine wp_putI (pc := 11) dX1_change_11 fl_1_26 (by first | rfl | assumption | exact sh_house (by omega) | exact sh_wish (by omega) | exact sh_wor (by omega) | exact sh_bar (by omega) | exact sh_term (by omega) | exact sh_sheet (by omega) | exact sh_items (by omega) | exact sh_sums (by omega)) rfl rfl rfl ?_
            refine wp_goto (pc := 14) (tgt := 45) dX1_change_14 rfl ?_
            refine wp_iload_n (pc := 45) dX1_change_45 (by first | rfl | assumption | (repeat first | assumption | rfl | refine aG_n ?_ rfl rfl)) ?_
            refine wp_iretK (pc := 46) dX1_change_46 rfl (by first | rfl | decide | assumption) ?_
            refine wp_ireturn (pc := 63) dX11_set_63 rfl (by first | rfl | decide | assumption) ?_
            refine k _ _ (fun Q' k' => ?_)
            have c6 : ¬ up2 μ.1 (55 + 4 * i) 2 v 86 15 = 1 := by rw [up2_ne (by omega)]; exact c5
            refine wp_iload_n (pc := 0) dX12_set_0 (by first | rfl | assumption | (repeat first | assumption | rfl | refine aG_n ?_ rfl rfl)) ?_
            refine wp_cS (pc := 1) dX12_set_1 lk_12_143 rfl rfl rfl (c_X12_isHouse (fun _ => aK_i ?_) (fun q => absurd (by assumption) q))
            refine wp_if_eq (pc := 4) (tgt := 42) dX12_set_4 rfl (fun q => absurd q (by decide)) (fun _ => ?_)
            refine wp_iload_n (pc := 7) dX12_set_7 (by first | rfl | assumption | (repeat first | assumption | rfl | refine aG_n ?_ rfl rfl)) ?_
            refine wp_i2l (pc := 8) dX12_set_8 ?_
            refine wp_lconst (pc := 9) (v := 0) dX12_set_9 (by decide) ?_
            refine wp_ldc2 (pc := 10) dX12_set_10 cl_12_212 ?_
            refine wp_cS (pc := 13) dX12_set_13 lk_12_133 rfl rfl rfl (c_X12_in (fun _ => aK_i ?_) (fun q => absurd (by rw [w_int]; exact c2) q))
            refine wp_if_eq (pc := 16) (tgt := 42) dX12_set_16 rfl (fun q => absurd q (by decide)) (fun _ => ?_)
            refine wp_iload_n (pc := 19) dX12_set_19 (by first | rfl | assumption | (repeat first | assumption | rfl | refine aG_n ?_ rfl rfl)) ?_
            refine wp_i2l (pc := 20) dX12_set_20 ?_
            refine wp_lconst (pc := 21) (v := 0) dX12_set_21 (by decide) ?_
            refine wp_iload_n (pc := 22) dX12_set_22 (by first | rfl | assumption | (repeat first | assumption | rfl | refine aG_n ?_ rfl rfl)) ?_
            refine wp_iconst (pc := 23) (v := 2) dX12_set_23 (by decide) ?_
            refine wp_icmp_ne (pc := 24) (tgt := 33) dX12_set_24 rfl (fun _ => ?_) (fun q => absurd q (by decide))
            refine wp_ldc2 (pc := 33) dX12_set_33 cl_12_216 ?_
            refine wp_cS (pc := 36) dX12_set_36 lk_12_133 rfl rfl rfl (c_X12_in (fun _ => aK_i ?_) (fun q => absurd (by rw [w_int]; exact c3) q))
            refine wp_if_ne (pc := 39) (tgt := 44) dX12_set_39 rfl (fun _ => ?_) (fun q => absurd q (by decide))
            refine wp_aload_n (pc := 44) dX12_set_44 (by first | rfl | assumption | (repeat first | assumption | rfl | refine aG_n ?_ rfl rfl)) ?_
            refine wp_cV (pc := 45) dX12_set_45 lk_12_147 rfl (by decide) rfl (by first | rfl | assumption | exact sh_house (by omega) | exact sh_wish (by omega) | exact sh_wor (by omega) | exact sh_bar (by omega) | exact sh_term (by omega) | exact sh_sheet (by omega) | exact sh_items (by omega) | exact sh_sums (by omega)) rfl rfl (c_X12_isTalking (fun q => absurd q c6) (fun _ => aK_i ?_))
            refine wp_if_eq (pc := 48) (tgt := 54) dX12_set_48 rfl (fun _ => ?_) (fun q => absurd q (by decide))
            refine wp_iload_n (pc := 54) dX12_set_54 (by first | rfl | assumption | (repeat first | assumption | rfl | refine aG_n ?_ rfl rfl)) ?_
            refine wp_if_ne (pc := 55) (tgt := 67) dX12_set_55 rfl (fun q => absurd q (by decide)) (fun _ => ?_)
            refine wp_aload_n (pc := 58) dX12_set_58 (by first | rfl | assumption | (repeat first | assumption | rfl | refine aG_n ?_ rfl rfl)) ?_
            refine wp_getR (pc := 59) dX12_set_59 fl_12_16 (by first | rfl | assumption | exact sh_house (by omega) | exact sh_wish (by omega) | exact sh_wor (by omega) | exact sh_bar (by omega) | exact sh_term (by omega) | exact sh_sheet (by omega) | exact sh_items (by omega) | exact sh_sums (by omega)) rfl ?_
            refine wp_iload_n (pc := 62) dX12_set_62 (by first | rfl | assumption | (repeat first | assumption | rfl | refine aG_n ?_ rfl rfl)) ?_
            refine wp_iald (pc := 63) dX12_set_63 (by first | rfl | assumption | exact sh_house (by omega) | exact sh_wish (by omega) | exact sh_wor (by omega) | exact sh_bar (by omega) | exact sh_term (by omega) | exact sh_sheet (by omega) | exact sh_items (by omega) | exact sh_sums (by omega)) (vp_in_nI (by omega) (by decide)) ?_
            refine wp_goto (pc := 64) (tgt := 87) dX12_set_64 rfl ?_
            refine wp_istore (pc := 87) dX12_set_87 (by decide) ?_
            refine wp_iload_n (pc := 89) dX12_set_89 (by first | rfl | assumption | (repeat first | assumption | rfl | refine aG_n ?_ rfl rfl)) ?_
            refine wp_if_ne (pc := 90) (tgt := 103) dX12_set_90 rfl (fun q => absurd q (by decide)) (fun _ => ?_)
            refine wp_aload_n (pc := 93) dX12_set_93 (by first | rfl | assumption | (repeat first | assumption | rfl | refine aG_n ?_ rfl rfl)) ?_
            refine wp_getR (pc := 94) dX12_set_94 fl_12_16 (by first | rfl | assumption | exact sh_house (by omega) | exact sh_wish (by omega) | exact sh_wor (by omega) | exact sh_bar (by omega) | exact sh_term (by omega) | exact sh_sheet (by omega) | exact sh_items (by omega) | exact sh_sums (by omega)) rfl ?_
            refine wp_iload_n (pc := 97) dX12_set_97 (by first | rfl | assumption | (repeat first | assumption | rfl | refine aG_n ?_ rfl rfl)) ?_
            refine wp_iload_n (pc := 98) dX12_set_98 (by first | rfl | assumption | (repeat first | assumption | rfl | refine aG_n ?_ rfl rfl)) ?_
            refine wp_iast (pc := 99) dX12_set_99 (by first | rfl | assumption | exact sh_house (by omega) | exact sh_wish (by omega) | exact sh_wor (by omega) | exact sh_bar (by omega) | exact sh_term (by omega) | exact sh_sheet (by omega) | exact sh_items (by omega) | exact sh_sums (by omega)) (vp_in_nI (by omega) (by decide)) ?_
            refine wp_goto (pc := 100) (tgt := 125) dX12_set_100 rfl ?_
            refine wp_iload (pc := 125) dX12_set_125 (by first | rfl | assumption | (repeat first | assumption | rfl | refine aG_n ?_ rfl rfl)) ?_
            refine wp_ireturn (pc := 127) dX12_set_127 rfl (by first | rfl | decide | assumption) ?_
            refine qEq ?_ (k' _ ?_)
            · simp (disch := omega) only [nI_clamp, up2_ne]
              exact ((hI.2.2.1 i (by omega)).1.1).symm
            · simp (disch := omega) only [nI_clamp]
              refine ⟨own_c (by simp (disch := omega) only [up2_ne, fil_ne]) (fun i9 hi9 => (by simp (disch := omega) only [up2_ne, up2_p, fil_ne, fil_p])) (hI.1), coin_c (by simp (disch := omega) only [up2_ne, fil_ne]) (fun i9 hi9 => (by simp (disch := omega) only [up2_ne, up2_p, fil_ne, fil_p])) (hI.2.1), ?_, wish_c ⟨(by simp (disch := omega) only [up2_ne, fil_ne]), (by simp (disch := omega) only [up2_ne, fil_ne]), (by simp (disch := omega) only [up2_ne, fil_ne]), (by simp (disch := omega) only [up2_ne, fil_ne])⟩ (fun i9 hi9 => ⟨(by simp (disch := omega) only [up2_ne, fil_ne]), (by simp (disch := omega) only [up2_ne, fil_ne]), (by simp (disch := omega) only [up2_ne, fil_ne])⟩) (hI.2.2.2.1), tape_c (by simp (disch := omega) only [up2_ne, up2_p, fil_ne, fil_p]) (by simp (disch := omega) only [up2_ne, up2_p, fil_ne, fil_p]) (by simp (disch := omega) only [up2_ne, fil_ne]) (by simp (disch := omega) only [up2_ne, fil_ne]) (hI.2.2.2.2.1), talk_c ⟨(by simp (disch := omega) only [up2_ne, fil_ne]), (by simp (disch := omega) only [up2_ne, fil_ne]), (by simp (disch := omega) only [up2_ne, fil_ne]), (by simp (disch := omega) only [up2_ne, fil_ne]), (by simp (disch := omega) only [up2_ne, fil_ne])⟩ ⟨(by simp (disch := omega) only [up2_ne, fil_ne]), (by simp (disch := omega) only [up2_ne, fil_ne]), (by simp (disch := omega) only [up2_ne, fil_ne])⟩ (fun j9 hj9 hk9 => (by simp (disch := omega) only [up2_ne, up2_p, fil_ne, fil_p])) (fun o9 => absurd o9 c5) rfl (hI.2.2.2.2.2.1), led_c (by simp (disch := omega) only [up2_ne, up2_p, fil_ne, fil_p]) (by simp (disch := omega) only [up2_ne, up2_p, fil_ne, fil_p]) (fun i9 hi9 => (by simp (disch := omega) only [up2_ne, fil_ne])) (fun c9 hc9 hd9 => (by simp (disch := omega) only [up2_ne, fil_ne])) ⟨(by simp (disch := omega) only [up2_ne, fil_ne]), (by simp (disch := omega) only [up2_ne, fil_ne])⟩ (hI.2.2.2.2.2.2.1), row_c (by simp (disch := omega) only [up2_ne, fil_ne]) (by simp (disch := omega) only [up2_ne, fil_ne]) (hI.2.2.2.2.2.2.2.1), sheet_c ⟨(by simp (disch := omega) only [up2_ne, fil_ne]), (by simp (disch := omega) only [up2_ne, fil_ne]), (by simp (disch := omega) only [up2_ne, fil_ne])⟩ (fun s9 hs9 => ⟨(by simp (disch := omega) only [up2_ne, fil_ne]), (by simp (disch := omega) only [up2_ne, fil_ne])⟩) (hI.2.2.2.2.2.2.2.2.1), grp_c (by simp (disch := omega) only [up2_ne, up2_p, fil_ne, fil_p]) (fun g9 hg9 => (by simp (disch := omega) only [up2_ne, fil_ne])) (fun i9 hi9 => ⟨(by simp (disch := omega) only [up2_ne, fil_ne]), (by simp (disch := omega) only [up2_ne, fil_ne])⟩) (hI.2.2.2.2.2.2.2.2.2)⟩
              intro q hq
              have hh := hI.2.2.1 q hq
              by_cases e : q = i
              · subst e
                simp (disch := omega) only [up2_ne, up2_at, up2_p]
                exact ⟨⟨trivial, c3⟩, hh.2.1, hh.2.2⟩
              · simp (disch := omega) only [up2_ne, up2_p]
                exact hh
        · refine wp_iload_n (pc := 0) dX11_set_0 (by first | rfl | assumption | (repeat first | assumption | rfl | refine aG_n ?_ rfl rfl)) ?_
          refine wp_cS (pc := 1) dX11_set_1 lk_11_101 rfl rfl rfl (c_X11_isHouse (fun _ => aK_i ?_) (fun q => absurd (by assumption) q))
          refine wp_if_eq (pc := 4) (tgt := 37) dX11_set_4 rfl (fun q => absurd q (by decide)) (fun _ => ?_)
          refine wp_iload_n (pc := 7) dX11_set_7 (by first | rfl | assumption | (repeat first | assumption | rfl | refine aG_n ?_ rfl rfl)) ?_
          refine wp_iconst (pc := 8) (v := 0) dX11_set_8 (by decide) ?_
          refine wp_iconst (pc := 9) (v := 2) dX11_set_9 (by decide) ?_
          refine wp_cS (pc := 10) dX11_set_10 lk_11_112 rfl rfl rfl (c_X11_isWithin (fun _ => aK_i ?_) (fun q => absurd c2 q))
          refine wp_if_eq (pc := 13) (tgt := 37) dX11_set_13 rfl (fun q => absurd q (by decide)) (fun _ => ?_)
          refine wp_iload_n (pc := 16) dX11_set_16 (by first | rfl | assumption | (repeat first | assumption | rfl | refine aG_n ?_ rfl rfl)) ?_
          refine wp_iconst (pc := 17) (v := 0) dX11_set_17 (by decide) ?_
          refine wp_iload_n (pc := 18) dX11_set_18 (by first | rfl | assumption | (repeat first | assumption | rfl | refine aG_n ?_ rfl rfl)) ?_
          refine wp_iconst (pc := 19) (v := 2) dX11_set_19 (by decide) ?_
          refine wp_icmp_ne (pc := 20) (tgt := 28) dX11_set_20 rfl (fun _ => ?_) (fun q => absurd q (by decide))
          refine wp_sipush (pc := 28) (v := 999) dX11_set_28 (by decide) ?_
          refine wp_cS (pc := 31) dX11_set_31 lk_11_112 rfl rfl rfl (c_X11_isWithin (fun q => absurd q c3) (fun _ => aK_i ?_))
          refine wp_if_ne (pc := 34) (tgt := 39) dX11_set_34 rfl (fun q => absurd q (by decide)) (fun _ => ?_)
          refine wp_iconst (pc := 37) (v := -1) dX11_set_37 (by decide) ?_
          refine wp_ireturn (pc := 38) dX11_set_38 rfl (by first | rfl | decide | assumption) ?_
          refine k _ _ (fun Q' k' => ?_)
          refine wp_iload_n (pc := 0) dX12_set_0 (by first | rfl | assumption | (repeat first | assumption | rfl | refine aG_n ?_ rfl rfl)) ?_
          refine wp_cS (pc := 1) dX12_set_1 lk_12_143 rfl rfl rfl (c_X12_isHouse (fun _ => aK_i ?_) (fun q => absurd (by assumption) q))
          refine wp_if_eq (pc := 4) (tgt := 42) dX12_set_4 rfl (fun q => absurd q (by decide)) (fun _ => ?_)
          refine wp_iload_n (pc := 7) dX12_set_7 (by first | rfl | assumption | (repeat first | assumption | rfl | refine aG_n ?_ rfl rfl)) ?_
          refine wp_i2l (pc := 8) dX12_set_8 ?_
          refine wp_lconst (pc := 9) (v := 0) dX12_set_9 (by decide) ?_
          refine wp_ldc2 (pc := 10) dX12_set_10 cl_12_212 ?_
          refine wp_cS (pc := 13) dX12_set_13 lk_12_133 rfl rfl rfl (c_X12_in (fun _ => aK_i ?_) (fun q => absurd (by rw [w_int]; exact c2) q))
          refine wp_if_eq (pc := 16) (tgt := 42) dX12_set_16 rfl (fun q => absurd q (by decide)) (fun _ => ?_)
          refine wp_iload_n (pc := 19) dX12_set_19 (by first | rfl | assumption | (repeat first | assumption | rfl | refine aG_n ?_ rfl rfl)) ?_
          refine wp_i2l (pc := 20) dX12_set_20 ?_
          refine wp_lconst (pc := 21) (v := 0) dX12_set_21 (by decide) ?_
          refine wp_iload_n (pc := 22) dX12_set_22 (by first | rfl | assumption | (repeat first | assumption | rfl | refine aG_n ?_ rfl rfl)) ?_
          refine wp_iconst (pc := 23) (v := 2) dX12_set_23 (by decide) ?_
          refine wp_icmp_ne (pc := 24) (tgt := 33) dX12_set_24 rfl (fun _ => ?_) (fun q => absurd q (by decide))
          refine wp_ldc2 (pc := 33) dX12_set_33 cl_12_216 ?_
          refine wp_cS (pc := 36) dX12_set_36 lk_12_133 rfl rfl rfl (c_X12_in (fun q => absurd q (by rw [w_int]; exact c3)) (fun _ => aK_i ?_))
          refine wp_if_ne (pc := 39) (tgt := 44) dX12_set_39 rfl (fun q => absurd q (by decide)) (fun _ => ?_)
          refine wp_iconst (pc := 42) (v := -1) dX12_set_42 (by decide) ?_
          refine wp_ireturn (pc := 43) dX12_set_43 rfl (by first | rfl | decide | assumption) ?_
          exact k' _ hI
      | 1, _ =>
        by_cases c3 : inR v 0 999
        · by_cases c4 : μ.1 73 0 = 1
          · have c5 : μ.1 86 15 = 1 := hI.2.2.2.2.2.1.1 ▸ c4
            refine wp_iload_n (pc := 0) dX11_set_0 (by first | rfl | assumption | (repeat first | assumption | rfl | refine aG_n ?_ rfl rfl)) ?_
            refine wp_cS (pc := 1) dX11_set_1 lk_11_101 rfl rfl rfl (c_X11_isHouse (fun _ => aK_i ?_) (fun q => absurd (by assumption) q))
            refine wp_if_eq (pc := 4) (tgt := 37) dX11_set_4 rfl (fun q => absurd q (by decide)) (fun _ => ?_)
            refine wp_iload_n (pc := 7) dX11_set_7 (by first | rfl | assumption | (repeat first | assumption | rfl | refine aG_n ?_ rfl rfl)) ?_
            refine wp_iconst (pc := 8) (v := 0) dX11_set_8 (by decide) ?_
            refine wp_iconst (pc := 9) (v := 2) dX11_set_9 (by decide) ?_
            refine wp_cS (pc := 10) dX11_set_10 lk_11_112 rfl rfl rfl (c_X11_isWithin (fun _ => aK_i ?_) (fun q => absurd c2 q))
            refine wp_if_eq (pc := 13) (tgt := 37) dX11_set_13 rfl (fun q => absurd q (by decide)) (fun _ => ?_)
            refine wp_iload_n (pc := 16) dX11_set_16 (by first | rfl | assumption | (repeat first | assumption | rfl | refine aG_n ?_ rfl rfl)) ?_
            refine wp_iconst (pc := 17) (v := 0) dX11_set_17 (by decide) ?_
            refine wp_iload_n (pc := 18) dX11_set_18 (by first | rfl | assumption | (repeat first | assumption | rfl | refine aG_n ?_ rfl rfl)) ?_
            refine wp_iconst (pc := 19) (v := 2) dX11_set_19 (by decide) ?_
            refine wp_icmp_ne (pc := 20) (tgt := 28) dX11_set_20 rfl (fun _ => ?_) (fun q => absurd q (by decide))
            refine wp_sipush (pc := 28) (v := 999) dX11_set_28 (by decide) ?_
            refine wp_cS (pc := 31) dX11_set_31 lk_11_112 rfl rfl rfl (c_X11_isWithin (fun _ => aK_i ?_) (fun q => absurd c3 q))
            refine wp_if_ne (pc := 34) (tgt := 39) dX11_set_34 rfl (fun _ => ?_) (fun q => absurd q (by decide))
            refine wp_aload_n (pc := 39) dX11_set_39 (by first | rfl | assumption | (repeat first | assumption | rfl | refine aG_n ?_ rfl rfl)) ?_
            refine wp_getR (pc := 40) dX11_set_40 fl_11_92 (by first | rfl | assumption | exact sh_house (by omega) | exact sh_wish (by omega) | exact sh_wor (by omega) | exact sh_bar (by omega) | exact sh_term (by omega) | exact sh_sheet (by omega) | exact sh_items (by omega) | exact sh_sums (by omega)) rfl ?_
            refine wp_cV (pc := 43) dX11_set_43 lk_11_104 rfl (by decide) rfl (by first | rfl | assumption | exact sh_house (by omega) | exact sh_wish (by omega) | exact sh_wor (by omega) | exact sh_bar (by omega) | exact sh_term (by omega) | exact sh_sheet (by omega) | exact sh_items (by omega) | exact sh_sums (by omega)) rfl rfl (c_X7_isOpen (fun _ => aK_i ?_) (fun q => absurd c4 q))
            refine wp_if_eq (pc := 46) (tgt := 52) dX11_set_46 rfl (fun q => absurd q (by decide)) (fun _ => ?_)
            refine wp_bipush (pc := 49) (v := -2) dX11_set_49 (by decide) ?_
            refine wp_ireturn (pc := 51) dX11_set_51 rfl (by first | rfl | decide | assumption) ?_
            refine k _ _ (fun Q' k' => ?_)
            refine wp_iload_n (pc := 0) dX12_set_0 (by first | rfl | assumption | (repeat first | assumption | rfl | refine aG_n ?_ rfl rfl)) ?_
            refine wp_cS (pc := 1) dX12_set_1 lk_12_143 rfl rfl rfl (c_X12_isHouse (fun _ => aK_i ?_) (fun q => absurd (by assumption) q))
            refine wp_if_eq (pc := 4) (tgt := 42) dX12_set_4 rfl (fun q => absurd q (by decide)) (fun _ => ?_)
            refine wp_iload_n (pc := 7) dX12_set_7 (by first | rfl | assumption | (repeat first | assumption | rfl | refine aG_n ?_ rfl rfl)) ?_
            refine wp_i2l (pc := 8) dX12_set_8 ?_
            refine wp_lconst (pc := 9) (v := 0) dX12_set_9 (by decide) ?_
            refine wp_ldc2 (pc := 10) dX12_set_10 cl_12_212 ?_
            refine wp_cS (pc := 13) dX12_set_13 lk_12_133 rfl rfl rfl (c_X12_in (fun _ => aK_i ?_) (fun q => absurd (by rw [w_int]; exact c2) q))
            refine wp_if_eq (pc := 16) (tgt := 42) dX12_set_16 rfl (fun q => absurd q (by decide)) (fun _ => ?_)
            refine wp_iload_n (pc := 19) dX12_set_19 (by first | rfl | assumption | (repeat first | assumption | rfl | refine aG_n ?_ rfl rfl)) ?_
            refine wp_i2l (pc := 20) dX12_set_20 ?_
            refine wp_lconst (pc := 21) (v := 0) dX12_set_21 (by decide) ?_
            refine wp_iload_n (pc := 22) dX12_set_22 (by first | rfl | assumption | (repeat first | assumption | rfl | refine aG_n ?_ rfl rfl)) ?_
            refine wp_iconst (pc := 23) (v := 2) dX12_set_23 (by decide) ?_
            refine wp_icmp_ne (pc := 24) (tgt := 33) dX12_set_24 rfl (fun _ => ?_) (fun q => absurd q (by decide))
            refine wp_ldc2 (pc := 33) dX12_set_33 cl_12_216 ?_
            refine wp_cS (pc := 36) dX12_set_36 lk_12_133 rfl rfl rfl (c_X12_in (fun _ => aK_i ?_) (fun q => absurd (by rw [w_int]; exact c3) q))
            refine wp_if_ne (pc := 39) (tgt := 44) dX12_set_39 rfl (fun _ => ?_) (fun q => absurd q (by decide))
            refine wp_aload_n (pc := 44) dX12_set_44 (by first | rfl | assumption | (repeat first | assumption | rfl | refine aG_n ?_ rfl rfl)) ?_
            refine wp_cV (pc := 45) dX12_set_45 lk_12_147 rfl (by decide) rfl (by first | rfl | assumption | exact sh_house (by omega) | exact sh_wish (by omega) | exact sh_wor (by omega) | exact sh_bar (by omega) | exact sh_term (by omega) | exact sh_sheet (by omega) | exact sh_items (by omega) | exact sh_sums (by omega)) rfl rfl (c_X12_isTalking (fun _ => aK_i ?_) (fun q => absurd c5 q))
            refine wp_if_eq (pc := 48) (tgt := 54) dX12_set_48 rfl (fun q => absurd q (by decide)) (fun _ => ?_)
            refine wp_bipush (pc := 51) (v := -2) dX12_set_51 (by decide) ?_
            refine wp_ireturn (pc := 53) dX12_set_53 rfl (by first | rfl | decide | assumption) ?_
            exact k' _ hI
          · have c5 : ¬ μ.1 86 15 = 1 := fun z => c4 (hI.2.2.2.2.2.1.1.trans z)
            refine wp_iload_n (pc := 0) dX11_set_0 (by first | rfl | assumption | (repeat first | assumption | rfl | refine aG_n ?_ rfl rfl)) ?_
            refine wp_cS (pc := 1) dX11_set_1 lk_11_101 rfl rfl rfl (c_X11_isHouse (fun _ => aK_i ?_) (fun q => absurd (by assumption) q))
            refine wp_if_eq (pc := 4) (tgt := 37) dX11_set_4 rfl (fun q => absurd q (by decide)) (fun _ => ?_)
            refine wp_iload_n (pc := 7) dX11_set_7 (by first | rfl | assumption | (repeat first | assumption | rfl | refine aG_n ?_ rfl rfl)) ?_
            refine wp_iconst (pc := 8) (v := 0) dX11_set_8 (by decide) ?_
            refine wp_iconst (pc := 9) (v := 2) dX11_set_9 (by decide) ?_
            refine wp_cS (pc := 10) dX11_set_10 lk_11_112 rfl rfl rfl (c_X11_isWithin (fun _ => aK_i ?_) (fun q => absurd c2 q))
            refine wp_if_eq (pc := 13) (tgt := 37) dX11_set_13 rfl (fun q => absurd q (by decide)) (fun _ => ?_)
            refine wp_iload_n (pc := 16) dX11_set_16 (by first | rfl | assumption | (repeat first | assumption | rfl | refine aG_n ?_ rfl rfl)) ?_
            refine wp_iconst (pc := 17) (v := 0) dX11_set_17 (by decide) ?_
            refine wp_iload_n (pc := 18) dX11_set_18 (by first | rfl | assumption | (repeat first | assumption | rfl | refine aG_n ?_ rfl rfl)) ?_
            refine wp_iconst (pc := 19) (v := 2) dX11_set_19 (by decide) ?_
            refine wp_icmp_ne (pc := 20) (tgt := 28) dX11_set_20 rfl (fun _ => ?_) (fun q => absurd q (by decide))
            refine wp_sipush (pc := 28) (v := 999) dX11_set_28 (by decide) ?_
            refine wp_cS (pc := 31) dX11_set_31 lk_11_112 rfl rfl rfl (c_X11_isWithin (fun _ => aK_i ?_) (fun q => absurd c3 q))
            refine wp_if_ne (pc := 34) (tgt := 39) dX11_set_34 rfl (fun _ => ?_) (fun q => absurd q (by decide))
            refine wp_aload_n (pc := 39) dX11_set_39 (by first | rfl | assumption | (repeat first | assumption | rfl | refine aG_n ?_ rfl rfl)) ?_
            refine wp_getR (pc := 40) dX11_set_40 fl_11_92 (by first | rfl | assumption | exact sh_house (by omega) | exact sh_wish (by omega) | exact sh_wor (by omega) | exact sh_bar (by omega) | exact sh_term (by omega) | exact sh_sheet (by omega) | exact sh_items (by omega) | exact sh_sums (by omega)) rfl ?_
            refine wp_cV (pc := 43) dX11_set_43 lk_11_104 rfl (by decide) rfl (by first | rfl | assumption | exact sh_house (by omega) | exact sh_wish (by omega) | exact sh_wor (by omega) | exact sh_bar (by omega) | exact sh_term (by omega) | exact sh_sheet (by omega) | exact sh_items (by omega) | exact sh_sums (by omega)) rfl rfl (c_X7_isOpen (fun q => absurd q c4) (fun _ => aK_i ?_))
            refine wp_if_eq (pc := 46) (tgt := 52) dX11_set_46 rfl (fun _ => ?_) (fun q => absurd q (by decide))
            refine wp_aload_n (pc := 52) dX11_set_52 (by first | rfl | assumption | (repeat first | assumption | rfl | refine aG_n ?_ rfl rfl)) ?_
            refine wp_getR (pc := 53) dX11_set_53 fl_11_11 (by first | rfl | assumption | exact sh_house (by omega) | exact sh_wish (by omega) | exact sh_wor (by omega) | exact sh_bar (by omega) | exact sh_term (by omega) | exact sh_sheet (by omega) | exact sh_items (by omega) | exact sh_sums (by omega)) rfl ?_
            refine wp_iload_n (pc := 56) dX11_set_56 (by first | rfl | assumption | (repeat first | assumption | rfl | refine aG_n ?_ rfl rfl)) ?_
            refine wp_aald (pc := 57) dX11_set_57 (by first | rfl | assumption | exact sh_house (by omega) | exact sh_wish (by omega) | exact sh_wor (by omega) | exact sh_bar (by omega) | exact sh_term (by omega) | exact sh_sheet (by omega) | exact sh_items (by omega) | exact sh_sums (by omega)) (vp_in_nI (by omega) (by decide)) (by decide) (el_house (by omega)) ?_
            refine wp_iload_n (pc := 58) dX11_set_58 (by first | rfl | assumption | (repeat first | assumption | rfl | refine aG_n ?_ rfl rfl)) ?_
            refine wp_iload_n (pc := 59) dX11_set_59 (by first | rfl | assumption | (repeat first | assumption | rfl | refine aG_n ?_ rfl rfl)) ?_
            refine wp_cV (pc := 60) dX11_set_60 lk_11_164 rfl (by decide) rfl (by first | rfl | assumption | exact sh_house (by omega) | exact sh_wish (by omega) | exact sh_wor (by omega) | exact sh_bar (by omega) | exact sh_term (by omega) | exact sh_sheet (by omega) | exact sh_items (by omega) | exact sh_sums (by omega)) rfl rfl ?_
            refine wp_iload_n (pc := 0) dX1_change_0 (by first | rfl | assumption | (repeat first | assumption | rfl | refine aG_n ?_ rfl rfl)) ?_
            refine wp_if_ne (pc := 1) (tgt := 17) dX1_change_1 rfl (fun _ => ?_) (fun q => absurd q (by decide))
            refine wp_iload_n (pc := 17) dX1_change_17 (by first | rfl | assumption | (repeat first | assumption | rfl | refine aG_n ?_ rfl rfl)) ?_
            refine wp_iconst (pc := 18) (v := 1) dX1_change_18 (by decide) ?_
            refine wp_icmp_ne (pc := 19) (tgt := 35) dX1_change_19 rfl (fun q => absurd q (by decide)) (fun _ => ?_)
            refine wp_aload_n (pc := 22) dX1_change_22 (by first | rfl | assumption | (repeat first | assumption | rfl | refine aG_n ?_ rfl rfl)) ?_
            refine wp_getI (pc := 23) dX1_change_23 fl_1_13 (by first | rfl | assumption | exact sh_house (by omega) | exact sh_wish (by omega) | exact sh_wor (by omega) | exact sh_bar (by omega) | exact sh_term (by omega) | exact sh_sheet (by omega) | exact sh_items (by omega) | exact sh_sums (by omega)) rfl ?_
            refine wp_istore_n (pc := 26) dX1_change_26 (by decide) ?_
            refine wp_aload_n (pc := 27) dX1_change_27 (by first | rfl | assumption | (repeat first | assumption | rfl | refine aG_n ?_ rfl rfl)) ?_
            refine wp_iload_n (pc := 28) dX1_change_28 (by first | rfl | assumption | (repeat first | assumption | rfl | refine aG_n ?_ rfl rfl)) ?_
            refine wp_putI (pc := 29) dX1_change_29 fl_1_13 (by first | rfl | assumption | exact sh_house (by omega) | exact sh_wish (by omega) | exact sh_wor (by omega) | exact sh_bar (by omega) | exact sh_term (by omega) | exact sh_sheet (by omega) | exact sh_items (by omega) | exact sh_sums (by omega)) rfl rfl rfl ?_
            refine wp_goto (pc := 32) (tgt := 45) dX1_change_32 rfl ?_
            refine wp_iload_n (pc := 45) dX1_change_45 (by first | rfl | assumption | (repeat first | assumption | rfl | refine aG_n ?_ rfl rfl)) ?_
            refine wp_iretK (pc := 46) dX1_change_46 rfl (by first | rfl | decide | assumption) ?_
            refine wp_ireturn (pc := 63) dX11_set_63 rfl (by first | rfl | decide | assumption) ?_
            refine k _ _ (fun Q' k' => ?_)
            have c6 : ¬ up2 μ.1 (55 + 4 * i) 3 v 86 15 = 1 := by rw [up2_ne (by omega)]; exact c5
            refine wp_iload_n (pc := 0) dX12_set_0 (by first | rfl | assumption | (repeat first | assumption | rfl | refine aG_n ?_ rfl rfl)) ?_
            refine wp_cS (pc := 1) dX12_set_1 lk_12_143 rfl rfl rfl (c_X12_isHouse (fun _ => aK_i ?_) (fun q => absurd (by assumption) q))
            refine wp_if_eq (pc := 4) (tgt := 42) dX12_set_4 rfl (fun q => absurd q (by decide)) (fun _ => ?_)
            refine wp_iload_n (pc := 7) dX12_set_7 (by first | rfl | assumption | (repeat first | assumption | rfl | refine aG_n ?_ rfl rfl)) ?_
            refine wp_i2l (pc := 8) dX12_set_8 ?_
            refine wp_lconst (pc := 9) (v := 0) dX12_set_9 (by decide) ?_
            refine wp_ldc2 (pc := 10) dX12_set_10 cl_12_212 ?_
            refine wp_cS (pc := 13) dX12_set_13 lk_12_133 rfl rfl rfl (c_X12_in (fun _ => aK_i ?_) (fun q => absurd (by rw [w_int]; exact c2) q))
            refine wp_if_eq (pc := 16) (tgt := 42) dX12_set_16 rfl (fun q => absurd q (by decide)) (fun _ => ?_)
            refine wp_iload_n (pc := 19) dX12_set_19 (by first | rfl | assumption | (repeat first | assumption | rfl | refine aG_n ?_ rfl rfl)) ?_
            refine wp_i2l (pc := 20) dX12_set_20 ?_
            refine wp_lconst (pc := 21) (v := 0) dX12_set_21 (by decide) ?_
            refine wp_iload_n (pc := 22) dX12_set_22 (by first | rfl | assumption | (repeat first | assumption | rfl | refine aG_n ?_ rfl rfl)) ?_
            refine wp_iconst (pc := 23) (v := 2) dX12_set_23 (by decide) ?_
            refine wp_icmp_ne (pc := 24) (tgt := 33) dX12_set_24 rfl (fun _ => ?_) (fun q => absurd q (by decide))
            refine wp_ldc2 (pc := 33) dX12_set_33 cl_12_216 ?_
            refine wp_cS (pc := 36) dX12_set_36 lk_12_133 rfl rfl rfl (c_X12_in (fun _ => aK_i ?_) (fun q => absurd (by rw [w_int]; exact c3) q))
            refine wp_if_ne (pc := 39) (tgt := 44) dX12_set_39 rfl (fun _ => ?_) (fun q => absurd q (by decide))
            refine wp_aload_n (pc := 44) dX12_set_44 (by first | rfl | assumption | (repeat first | assumption | rfl | refine aG_n ?_ rfl rfl)) ?_
            refine wp_cV (pc := 45) dX12_set_45 lk_12_147 rfl (by decide) rfl (by first | rfl | assumption | exact sh_house (by omega) | exact sh_wish (by omega) | exact sh_wor (by omega) | exact sh_bar (by omega) | exact sh_term (by omega) | exact sh_sheet (by omega) | exact sh_items (by omega) | exact sh_sums (by omega)) rfl rfl (c_X12_isTalking (fun q => absurd q c6) (fun _ => aK_i ?_))
            refine wp_if_eq (pc := 48) (tgt := 54) dX12_set_48 rfl (fun _ => ?_) (fun q => absurd q (by decide))
            refine wp_iload_n (pc := 54) dX12_set_54 (by first | rfl | assumption | (repeat first | assumption | rfl | refine aG_n ?_ rfl rfl)) ?_
            refine wp_if_ne (pc := 55) (tgt := 67) dX12_set_55 rfl (fun _ => ?_) (fun q => absurd q (by decide))
            refine wp_iload_n (pc := 67) dX12_set_67 (by first | rfl | assumption | (repeat first | assumption | rfl | refine aG_n ?_ rfl rfl)) ?_
            refine wp_iconst (pc := 68) (v := 1) dX12_set_68 (by decide) ?_
            refine wp_icmp_ne (pc := 69) (tgt := 81) dX12_set_69 rfl (fun q => absurd q (by decide)) (fun _ => ?_)
            refine wp_aload_n (pc := 72) dX12_set_72 (by first | rfl | assumption | (repeat first | assumption | rfl | refine aG_n ?_ rfl rfl)) ?_
            refine wp_getR (pc := 73) dX12_set_73 fl_12_19 (by first | rfl | assumption | exact sh_house (by omega) | exact sh_wish (by omega) | exact sh_wor (by omega) | exact sh_bar (by omega) | exact sh_term (by omega) | exact sh_sheet (by omega) | exact sh_items (by omega) | exact sh_sums (by omega)) rfl ?_
            refine wp_iload_n (pc := 76) dX12_set_76 (by first | rfl | assumption | (repeat first | assumption | rfl | refine aG_n ?_ rfl rfl)) ?_
            refine wp_iald (pc := 77) dX12_set_77 (by first | rfl | assumption | exact sh_house (by omega) | exact sh_wish (by omega) | exact sh_wor (by omega) | exact sh_bar (by omega) | exact sh_term (by omega) | exact sh_sheet (by omega) | exact sh_items (by omega) | exact sh_sums (by omega)) (vp_in_nI (by omega) (by decide)) ?_
            refine wp_goto (pc := 78) (tgt := 87) dX12_set_78 rfl ?_
            refine wp_istore (pc := 87) dX12_set_87 (by decide) ?_
            refine wp_iload_n (pc := 89) dX12_set_89 (by first | rfl | assumption | (repeat first | assumption | rfl | refine aG_n ?_ rfl rfl)) ?_
            refine wp_if_ne (pc := 90) (tgt := 103) dX12_set_90 rfl (fun _ => ?_) (fun q => absurd q (by decide))
            refine wp_iload_n (pc := 103) dX12_set_103 (by first | rfl | assumption | (repeat first | assumption | rfl | refine aG_n ?_ rfl rfl)) ?_
            refine wp_iconst (pc := 104) (v := 1) dX12_set_104 (by decide) ?_
            refine wp_icmp_ne (pc := 105) (tgt := 118) dX12_set_105 rfl (fun q => absurd q (by decide)) (fun _ => ?_)
            refine wp_aload_n (pc := 108) dX12_set_108 (by first | rfl | assumption | (repeat first | assumption | rfl | refine aG_n ?_ rfl rfl)) ?_
            refine wp_getR (pc := 109) dX12_set_109 fl_12_19 (by first | rfl | assumption | exact sh_house (by omega) | exact sh_wish (by omega) | exact sh_wor (by omega) | exact sh_bar (by omega) | exact sh_term (by omega) | exact sh_sheet (by omega) | exact sh_items (by omega) | exact sh_sums (by omega)) rfl ?_
            refine wp_iload_n (pc := 112) dX12_set_112 (by first | rfl | assumption | (repeat first | assumption | rfl | refine aG_n ?_ rfl rfl)) ?_
            refine wp_iload_n (pc := 113) dX12_set_113 (by first | rfl | assumption | (repeat first | assumption | rfl | refine aG_n ?_ rfl rfl)) ?_
            refine wp_iast (pc := 114) dX12_set_114 (by first | rfl | assumption | exact sh_house (by omega) | exact sh_wish (by omega) | exact sh_wor (by omega) | exact sh_bar (by omega) | exact sh_term (by omega) | exact sh_sheet (by omega) | exact sh_items (by omega) | exact sh_sums (by omega)) (vp_in_nI (by omega) (by decide)) ?_
            refine wp_goto (pc := 115) (tgt := 125) dX12_set_115 rfl ?_
            refine wp_iload (pc := 125) dX12_set_125 (by first | rfl | assumption | (repeat first | assumption | rfl | refine aG_n ?_ rfl rfl)) ?_
            refine wp_ireturn (pc := 127) dX12_set_127 rfl (by first | rfl | decide | assumption) ?_
            refine qEq ?_ (k' _ ?_)
            · simp (disch := omega) only [nI_clamp, up2_ne]
              exact ((hI.2.2.1 i (by omega)).2.1.1).symm
            · simp (disch := omega) only [nI_clamp]
              refine ⟨own_c (by simp (disch := omega) only [up2_ne, fil_ne]) (fun i9 hi9 => (by simp (disch := omega) only [up2_ne, up2_p, fil_ne, fil_p])) (hI.1), coin_c (by simp (disch := omega) only [up2_ne, fil_ne]) (fun i9 hi9 => (by simp (disch := omega) only [up2_ne, up2_p, fil_ne, fil_p])) (hI.2.1), ?_, wish_c ⟨(by simp (disch := omega) only [up2_ne, fil_ne]), (by simp (disch := omega) only [up2_ne, fil_ne]), (by simp (disch := omega) only [up2_ne, fil_ne]), (by simp (disch := omega) only [up2_ne, fil_ne])⟩ (fun i9 hi9 => ⟨(by simp (disch := omega) only [up2_ne, fil_ne]), (by simp (disch := omega) only [up2_ne, fil_ne]), (by simp (disch := omega) only [up2_ne, fil_ne])⟩) (hI.2.2.2.1), tape_c (by simp (disch := omega) only [up2_ne, up2_p, fil_ne, fil_p]) (by simp (disch := omega) only [up2_ne, up2_p, fil_ne, fil_p]) (by simp (disch := omega) only [up2_ne, fil_ne]) (by simp (disch := omega) only [up2_ne, fil_ne]) (hI.2.2.2.2.1), talk_c ⟨(by simp (disch := omega) only [up2_ne, fil_ne]), (by simp (disch := omega) only [up2_ne, fil_ne]), (by simp (disch := omega) only [up2_ne, fil_ne]), (by simp (disch := omega) only [up2_ne, fil_ne]), (by simp (disch := omega) only [up2_ne, fil_ne])⟩ ⟨(by simp (disch := omega) only [up2_ne, fil_ne]), (by simp (disch := omega) only [up2_ne, fil_ne]), (by simp (disch := omega) only [up2_ne, fil_ne])⟩ (fun j9 hj9 hk9 => (by simp (disch := omega) only [up2_ne, up2_p, fil_ne, fil_p])) (fun o9 => absurd o9 c5) rfl (hI.2.2.2.2.2.1), led_c (by simp (disch := omega) only [up2_ne, up2_p, fil_ne, fil_p]) (by simp (disch := omega) only [up2_ne, up2_p, fil_ne, fil_p]) (fun i9 hi9 => (by simp (disch := omega) only [up2_ne, fil_ne])) (fun c9 hc9 hd9 => (by simp (disch := omega) only [up2_ne, fil_ne])) ⟨(by simp (disch := omega) only [up2_ne, fil_ne]), (by simp (disch := omega) only [up2_ne, fil_ne])⟩ (hI.2.2.2.2.2.2.1), row_c (by simp (disch := omega) only [up2_ne, fil_ne]) (by simp (disch := omega) only [up2_ne, fil_ne]) (hI.2.2.2.2.2.2.2.1), sheet_c ⟨(by simp (disch := omega) only [up2_ne, fil_ne]), (by simp (disch := omega) only [up2_ne, fil_ne]), (by simp (disch := omega) only [up2_ne, fil_ne])⟩ (fun s9 hs9 => ⟨(by simp (disch := omega) only [up2_ne, fil_ne]), (by simp (disch := omega) only [up2_ne, fil_ne])⟩) (hI.2.2.2.2.2.2.2.2.1), grp_c (by simp (disch := omega) only [up2_ne, up2_p, fil_ne, fil_p]) (fun g9 hg9 => (by simp (disch := omega) only [up2_ne, fil_ne])) (fun i9 hi9 => ⟨(by simp (disch := omega) only [up2_ne, fil_ne]), (by simp (disch := omega) only [up2_ne, fil_ne])⟩) (hI.2.2.2.2.2.2.2.2.2)⟩
              intro q hq
              have hh := hI.2.2.1 q hq
              by_cases e : q = i
              · subst e
                simp (disch := omega) only [up2_ne, up2_at, up2_p]
                exact ⟨hh.1, ⟨trivial, c3⟩, hh.2.2⟩
              · simp (disch := omega) only [up2_ne, up2_p]
                exact hh
        · refine wp_iload_n (pc := 0) dX11_set_0 (by first | rfl | assumption | (repeat first | assumption | rfl | refine aG_n ?_ rfl rfl)) ?_
          refine wp_cS (pc := 1) dX11_set_1 lk_11_101 rfl rfl rfl (c_X11_isHouse (fun _ => aK_i ?_) (fun q => absurd (by assumption) q))
          refine wp_if_eq (pc := 4) (tgt := 37) dX11_set_4 rfl (fun q => absurd q (by decide)) (fun _ => ?_)
          refine wp_iload_n (pc := 7) dX11_set_7 (by first | rfl | assumption | (repeat first | assumption | rfl | refine aG_n ?_ rfl rfl)) ?_
          refine wp_iconst (pc := 8) (v := 0) dX11_set_8 (by decide) ?_
          refine wp_iconst (pc := 9) (v := 2) dX11_set_9 (by decide) ?_
          refine wp_cS (pc := 10) dX11_set_10 lk_11_112 rfl rfl rfl (c_X11_isWithin (fun _ => aK_i ?_) (fun q => absurd c2 q))
          refine wp_if_eq (pc := 13) (tgt := 37) dX11_set_13 rfl (fun q => absurd q (by decide)) (fun _ => ?_)
          refine wp_iload_n (pc := 16) dX11_set_16 (by first | rfl | assumption | (repeat first | assumption | rfl | refine aG_n ?_ rfl rfl)) ?_
          refine wp_iconst (pc := 17) (v := 0) dX11_set_17 (by decide) ?_
          refine wp_iload_n (pc := 18) dX11_set_18 (by first | rfl | assumption | (repeat first | assumption | rfl | refine aG_n ?_ rfl rfl)) ?_
          refine wp_iconst (pc := 19) (v := 2) dX11_set_19 (by decide) ?_
          refine wp_icmp_ne (pc := 20) (tgt := 28) dX11_set_20 rfl (fun _ => ?_) (fun q => absurd q (by decide))
          refine wp_sipush (pc := 28) (v := 999) dX11_set_28 (by decide) ?_
          refine wp_cS (pc := 31) dX11_set_31 lk_11_112 rfl rfl rfl (c_X11_isWithin (fun q => absurd q c3) (fun _ => aK_i ?_))
          refine wp_if_ne (pc := 34) (tgt := 39) dX11_set_34 rfl (fun q => absurd q (by decide)) (fun _ => ?_)
          refine wp_iconst (pc := 37) (v := -1) dX11_set_37 (by decide) ?_
          refine wp_ireturn (pc := 38) dX11_set_38 rfl (by first | rfl | decide | assumption) ?_
          refine k _ _ (fun Q' k' => ?_)
          refine wp_iload_n (pc := 0) dX12_set_0 (by first | rfl | assumption | (repeat first | assumption | rfl | refine aG_n ?_ rfl rfl)) ?_
          refine wp_cS (pc := 1) dX12_set_1 lk_12_143 rfl rfl rfl (c_X12_isHouse (fun _ => aK_i ?_) (fun q => absurd (by assumption) q))
          refine wp_if_eq (pc := 4) (tgt := 42) dX12_set_4 rfl (fun q => absurd q (by decide)) (fun _ => ?_)
          refine wp_iload_n (pc := 7) dX12_set_7 (by first | rfl | assumption | (repeat first | assumption | rfl | refine aG_n ?_ rfl rfl)) ?_
          refine wp_i2l (pc := 8) dX12_set_8 ?_
          refine wp_lconst (pc := 9) (v := 0) dX12_set_9 (by decide) ?_
          refine wp_ldc2 (pc := 10) dX12_set_10 cl_12_212 ?_
          refine wp_cS (pc := 13) dX12_set_13 lk_12_133 rfl rfl rfl (c_X12_in (fun _ => aK_i ?_) (fun q => absurd (by rw [w_int]; exact c2) q))
          refine wp_if_eq (pc := 16) (tgt := 42) dX12_set_16 rfl (fun q => absurd q (by decide)) (fun _ => ?_)
          refine wp_iload_n (pc := 19) dX12_set_19 (by first | rfl | assumption | (repeat first | assumption | rfl | refine aG_n ?_ rfl rfl)) ?_
          refine wp_i2l (pc := 20) dX12_set_20 ?_
          refine wp_lconst (pc := 21) (v := 0) dX12_set_21 (by decide) ?_
          refine wp_iload_n (pc := 22) dX12_set_22 (by first | rfl | assumption | (repeat first | assumption | rfl | refine aG_n ?_ rfl rfl)) ?_
          refine wp_iconst (pc := 23) (v := 2) dX12_set_23 (by decide) ?_
          refine wp_icmp_ne (pc := 24) (tgt := 33) dX12_set_24 rfl (fun _ => ?_) (fun q => absurd q (by decide))
          refine wp_ldc2 (pc := 33) dX12_set_33 cl_12_216 ?_
          refine wp_cS (pc := 36) dX12_set_36 lk_12_133 rfl rfl rfl (c_X12_in (fun q => absurd q (by rw [w_int]; exact c3)) (fun _ => aK_i ?_))
          refine wp_if_ne (pc := 39) (tgt := 44) dX12_set_39 rfl (fun q => absurd q (by decide)) (fun _ => ?_)
          refine wp_iconst (pc := 42) (v := -1) dX12_set_42 (by decide) ?_
          refine wp_ireturn (pc := 43) dX12_set_43 rfl (by first | rfl | decide | assumption) ?_
          exact k' _ hI
      | 2, _ =>
        by_cases c3 : inR v 0 99
        · by_cases c4 : μ.1 73 0 = 1
          · have c5 : μ.1 86 15 = 1 := hI.2.2.2.2.2.1.1 ▸ c4
            refine wp_iload_n (pc := 0) dX11_set_0 (by first | rfl | assumption | (repeat first | assumption | rfl | refine aG_n ?_ rfl rfl)) ?_
            refine wp_cS (pc := 1) dX11_set_1 lk_11_101 rfl rfl rfl (c_X11_isHouse (fun _ => aK_i ?_) (fun q => absurd (by assumption) q))
            refine wp_if_eq (pc := 4) (tgt := 37) dX11_set_4 rfl (fun q => absurd q (by decide)) (fun _ => ?_)
            refine wp_iload_n (pc := 7) dX11_set_7 (by first | rfl | assumption | (repeat first | assumption | rfl | refine aG_n ?_ rfl rfl)) ?_
            refine wp_iconst (pc := 8) (v := 0) dX11_set_8 (by decide) ?_
            refine wp_iconst (pc := 9) (v := 2) dX11_set_9 (by decide) ?_
            refine wp_cS (pc := 10) dX11_set_10 lk_11_112 rfl rfl rfl (c_X11_isWithin (fun _ => aK_i ?_) (fun q => absurd c2 q))
            refine wp_if_eq (pc := 13) (tgt := 37) dX11_set_13 rfl (fun q => absurd q (by decide)) (fun _ => ?_)
            refine wp_iload_n (pc := 16) dX11_set_16 (by first | rfl | assumption | (repeat first | assumption | rfl | refine aG_n ?_ rfl rfl)) ?_
            refine wp_iconst (pc := 17) (v := 0) dX11_set_17 (by decide) ?_
            refine wp_iload_n (pc := 18) dX11_set_18 (by first | rfl | assumption | (repeat first | assumption | rfl | refine aG_n ?_ rfl rfl)) ?_
            refine wp_iconst (pc := 19) (v := 2) dX11_set_19 (by decide) ?_
            refine wp_icmp_ne (pc := 20) (tgt := 28) dX11_set_20 rfl (fun q => absurd q (by decide)) (fun _ => ?_)
            refine wp_bipush (pc := 23) (v := 99) dX11_set_23 (by decide) ?_
            refine wp_goto (pc := 25) (tgt := 31) dX11_set_25 rfl ?_
            refine wp_cS (pc := 31) dX11_set_31 lk_11_112 rfl rfl rfl (c_X11_isWithin (fun _ => aK_i ?_) (fun q => absurd c3 q))
            refine wp_if_ne (pc := 34) (tgt := 39) dX11_set_34 rfl (fun _ => ?_) (fun q => absurd q (by decide))
            refine wp_aload_n (pc := 39) dX11_set_39 (by first | rfl | assumption | (repeat first | assumption | rfl | refine aG_n ?_ rfl rfl)) ?_
            refine wp_getR (pc := 40) dX11_set_40 fl_11_92 (by first | rfl | assumption | exact sh_house (by omega) | exact sh_wish (by omega) | exact sh_wor (by omega) | exact sh_bar (by omega) | exact sh_term (by omega) | exact sh_sheet (by omega) | exact sh_items (by omega) | exact sh_sums (by omega)) rfl ?_
            refine wp_cV (pc := 43) dX11_set_43 lk_11_104 rfl (by decide) rfl (by first | rfl | assumption | exact sh_house (by omega) | exact sh_wish (by omega) | exact sh_wor (by omega) | exact sh_bar (by omega) | exact sh_term (by omega) | exact sh_sheet (by omega) | exact sh_items (by omega) | exact sh_sums (by omega)) rfl rfl (c_X7_isOpen (fun _ => aK_i ?_) (fun q => absurd c4 q))
            refine wp_if_eq (pc := 46) (tgt := 52) dX11_set_46 rfl (fun q => absurd q (by decide)) (fun _ => ?_)
            refine wp_bipush (pc := 49) (v := -2) dX11_set_49 (by decide) ?_
            refine wp_ireturn (pc := 51) dX11_set_51 rfl (by first | rfl | decide | assumption) ?_
            refine k _ _ (fun Q' k' => ?_)
            refine wp_iload_n (pc := 0) dX12_set_0 (by first | rfl | assumption | (repeat first | assumption | rfl | refine aG_n ?_ rfl rfl)) ?_
            refine wp_cS (pc := 1) dX12_set_1 lk_12_143 rfl rfl rfl (c_X12_isHouse (fun _ => aK_i ?_) (fun q => absurd (by assumption) q))
            refine wp_if_eq (pc := 4) (tgt := 42) dX12_set_4 rfl (fun q => absurd q (by decide)) (fun _ => ?_)
            refine wp_iload_n (pc := 7) dX12_set_7 (by first | rfl | assumption | (repeat first | assumption | rfl | refine aG_n ?_ rfl rfl)) ?_
            refine wp_i2l (pc := 8) dX12_set_8 ?_
            refine wp_lconst (pc := 9) (v := 0) dX12_set_9 (by decide) ?_
            refine wp_ldc2 (pc := 10) dX12_set_10 cl_12_212 ?_
            refine wp_cS (pc := 13) dX12_set_13 lk_12_133 rfl rfl rfl (c_X12_in (fun _ => aK_i ?_) (fun q => absurd (by rw [w_int]; exact c2) q))
            refine wp_if_eq (pc := 16) (tgt := 42) dX12_set_16 rfl (fun q => absurd q (by decide)) (fun _ => ?_)
            refine wp_iload_n (pc := 19) dX12_set_19 (by first | rfl | assumption | (repeat first | assumption | rfl | refine aG_n ?_ rfl rfl)) ?_
            refine wp_i2l (pc := 20) dX12_set_20 ?_
            refine wp_lconst (pc := 21) (v := 0) dX12_set_21 (by decide) ?_
            refine wp_iload_n (pc := 22) dX12_set_22 (by first | rfl | assumption | (repeat first | assumption | rfl | refine aG_n ?_ rfl rfl)) ?_
            refine wp_iconst (pc := 23) (v := 2) dX12_set_23 (by decide) ?_
            refine wp_icmp_ne (pc := 24) (tgt := 33) dX12_set_24 rfl (fun q => absurd q (by decide)) (fun _ => ?_)
            refine wp_ldc2 (pc := 27) dX12_set_27 cl_12_214 ?_
            refine wp_goto (pc := 30) (tgt := 36) dX12_set_30 rfl ?_
            refine wp_cS (pc := 36) dX12_set_36 lk_12_133 rfl rfl rfl (c_X12_in (fun _ => aK_i ?_) (fun q => absurd (by rw [w_int]; exact c3) q))
            refine wp_if_ne (pc := 39) (tgt := 44) dX12_set_39 rfl (fun _ => ?_) (fun q => absurd q (by decide))
            refine wp_aload_n (pc := 44) dX12_set_44 (by first | rfl | assumption | (repeat first | assumption | rfl | refine aG_n ?_ rfl rfl)) ?_
            refine wp_cV (pc := 45) dX12_set_45 lk_12_147 rfl (by decide) rfl (by first | rfl | assumption | exact sh_house (by omega) | exact sh_wish (by omega) | exact sh_wor (by omega) | exact sh_bar (by omega) | exact sh_term (by omega) | exact sh_sheet (by omega) | exact sh_items (by omega) | exact sh_sums (by omega)) rfl rfl (c_X12_isTalking (fun _ => aK_i ?_) (fun q => absurd c5 q))
            refine wp_if_eq (pc := 48) (tgt := 54) dX12_set_48 rfl (fun q => absurd q (by decide)) (fun _ => ?_)
            refine wp_bipush (pc := 51) (v := -2) dX12_set_51 (by decide) ?_
            refine wp_ireturn (pc := 53) dX12_set_53 rfl (by first | rfl | decide | assumption) ?_
            exact k' _ hI
          · have c5 : ¬ μ.1 86 15 = 1 := fun z => c4 (hI.2.2.2.2.2.1.1.trans z)
            refine wp_iload_n (pc := 0) dX11_set_0 (by first | rfl | assumption | (repeat first | assumption | rfl | refine aG_n ?_ rfl rfl)) ?_
            refine wp_cS (pc := 1) dX11_set_1 lk_11_101 rfl rfl rfl (c_X11_isHouse (fun _ => aK_i ?_) (fun q => absurd (by assumption) q))
            refine wp_if_eq (pc := 4) (tgt := 37) dX11_set_4 rfl (fun q => absurd q (by decide)) (fun _ => ?_)
            refine wp_iload_n (pc := 7) dX11_set_7 (by first | rfl | assumption | (repeat first | assumption | rfl | refine aG_n ?_ rfl rfl)) ?_
            refine wp_iconst (pc := 8) (v := 0) dX11_set_8 (by decide) ?_
            refine wp_iconst (pc := 9) (v := 2) dX11_set_9 (by decide) ?_
            refine wp_cS (pc := 10) dX11_set_10 lk_11_112 rfl rfl rfl (c_X11_isWithin (fun _ => aK_i ?_) (fun q => absurd c2 q))
            refine wp_if_eq (pc := 13) (tgt := 37) dX11_set_13 rfl (fun q => absurd q (by decide)) (fun _ => ?_)
            refine wp_iload_n (pc := 16) dX11_set_16 (by first | rfl | assumption | (repeat first | assumption | rfl | refine aG_n ?_ rfl rfl)) ?_
            refine wp_iconst (pc := 17) (v := 0) dX11_set_17 (by decide) ?_
            refine wp_iload_n (pc := 18) dX11_set_18 (by first | rfl | assumption | (repeat first | assumption | rfl | refine aG_n ?_ rfl rfl)) ?_
            refine wp_iconst (pc := 19) (v := 2) dX11_set_19 (by decide) ?_
            refine wp_icmp_ne (pc := 20) (tgt := 28) dX11_set_20 rfl (fun q => absurd q (by decide)) (fun _ => ?_)
            refine wp_bipush (pc := 23) (v := 99) dX11_set_23 (by decide) ?_
            refine wp_goto (pc := 25) (tgt := 31) dX11_set_25 rfl ?_
            refine wp_cS (pc := 31) dX11_set_31 lk_11_112 rfl rfl rfl (c_X11_isWithin (fun _ => aK_i ?_) (fun q => absurd c3 q))
            refine wp_if_ne (pc := 34) (tgt := 39) dX11_set_34 rfl (fun _ => ?_) (fun q => absurd q (by decide))
            refine wp_aload_n (pc := 39) dX11_set_39 (by first | rfl | assumption | (repeat first | assumption | rfl | refine aG_n ?_ rfl rfl)) ?_
            refine wp_getR (pc := 40) dX11_set_40 fl_11_92 (by first | rfl | assumption | exact sh_house (by omega) | exact sh_wish (by omega) | exact sh_wor (by omega) | exact sh_bar (by omega) | exact sh_term (by omega) | exact sh_sheet (by omega) | exact sh_items (by omega) | exact sh_sums (by omega)) rfl ?_
            refine wp_cV (pc := 43) dX11_set_43 lk_11_104 rfl (by decide) rfl (by first | rfl | assumption | exact sh_house (by omega) | exact sh_wish (by omega) | exact sh_wor (by omega) | exact sh_bar (by omega) | exact sh_term (by omega) | exact sh_sheet (by omega) | exact sh_items (by omega) | exact sh_sums (by omega)) rfl rfl (c_X7_isOpen (fun q => absurd q c4) (fun _ => aK_i ?_))
            refine wp_if_eq (pc := 46) (tgt := 52) dX11_set_46 rfl (fun _ => ?_) (fun q => absurd q (by decide))
            refine wp_aload_n (pc := 52) dX11_set_52 (by first | rfl | assumption | (repeat first | assumption | rfl | refine aG_n ?_ rfl rfl)) ?_
            refine wp_getR (pc := 53) dX11_set_53 fl_11_11 (by first | rfl | assumption | exact sh_house (by omega) | exact sh_wish (by omega) | exact sh_wor (by omega) | exact sh_bar (by omega) | exact sh_term (by omega) | exact sh_sheet (by omega) | exact sh_items (by omega) | exact sh_sums (by omega)) rfl ?_
            refine wp_iload_n (pc := 56) dX11_set_56 (by first | rfl | assumption | (repeat first | assumption | rfl | refine aG_n ?_ rfl rfl)) ?_
            refine wp_aald (pc := 57) dX11_set_57 (by first | rfl | assumption | exact sh_house (by omega) | exact sh_wish (by omega) | exact sh_wor (by omega) | exact sh_bar (by omega) | exact sh_term (by omega) | exact sh_sheet (by omega) | exact sh_items (by omega) | exact sh_sums (by omega)) (vp_in_nI (by omega) (by decide)) (by decide) (el_house (by omega)) ?_
            refine wp_iload_n (pc := 58) dX11_set_58 (by first | rfl | assumption | (repeat first | assumption | rfl | refine aG_n ?_ rfl rfl)) ?_
            refine wp_iload_n (pc := 59) dX11_set_59 (by first | rfl | assumption | (repeat first | assumption | rfl | refine aG_n ?_ rfl rfl)) ?_
            refine wp_cV (pc := 60) dX11_set_60 lk_11_164 rfl (by decide) rfl (by first | rfl | assumption | exact sh_house (by omega) | exact sh_wish (by omega) | exact sh_wor (by omega) | exact sh_bar (by omega) | exact sh_term (by omega) | exact sh_sheet (by omega) | exact sh_items (by omega) | exact sh_sums (by omega)) rfl rfl ?_
            refine wp_iload_n (pc := 0) dX1_change_0 (by first | rfl | assumption | (repeat first | assumption | rfl | refine aG_n ?_ rfl rfl)) ?_
            refine wp_if_ne (pc := 1) (tgt := 17) dX1_change_1 rfl (fun _ => ?_) (fun q => absurd q (by decide))
            refine wp_iload_n (pc := 17) dX1_change_17 (by first | rfl | assumption | (repeat first | assumption | rfl | refine aG_n ?_ rfl rfl)) ?_
            refine wp_iconst (pc := 18) (v := 1) dX1_change_18 (by decide) ?_
            refine wp_icmp_ne (pc := 19) (tgt := 35) dX1_change_19 rfl (fun _ => ?_) (fun q => absurd q (by decide))
            refine wp_aload_n (pc := 35) dX1_change_35 (by first | rfl | assumption | (repeat first | assumption | rfl | refine aG_n ?_ rfl rfl)) ?_
            refine wp_getI (pc := 36) dX1_change_36 fl_1_16 (by first | rfl | assumption | exact sh_house (by omega) | exact sh_wish (by omega) | exact sh_wor (by omega) | exact sh_bar (by omega) | exact sh_term (by omega) | exact sh_sheet (by omega) | exact sh_items (by omega) | exact sh_sums (by omega)) rfl ?_
            refine wp_istore_n (pc := 39) dX1_change_39 (by decide) ?_
            refine wp_aload_n (pc := 40) dX1_change_40 (by first | rfl | assumption | (repeat first | assumption | rfl | refine aG_n ?_ rfl rfl)) ?_
            refine wp_iload_n (pc := 41) dX1_change_41 (by first | rfl | assumption | (repeat first | assumption | rfl | refine aG_n ?_ rfl rfl)) ?_
            refine wp_putI (pc := 42) dX1_change_42 fl_1_16 (by first | rfl | assumption | exact sh_house (by omega) | exact sh_wish (by omega) | exact sh_wor (by omega) | exact sh_bar (by omega) | exact sh_term (by omega) | exact sh_sheet (by omega) | exact sh_items (by omega) | exact sh_sums (by omega)) rfl rfl rfl ?_
            refine wp_iload_n (pc := 45) dX1_change_45 (by first | rfl | assumption | (repeat first | assumption | rfl | refine aG_n ?_ rfl rfl)) ?_
            refine wp_iretK (pc := 46) dX1_change_46 rfl (by first | rfl | decide | assumption) ?_
            refine wp_ireturn (pc := 63) dX11_set_63 rfl (by first | rfl | decide | assumption) ?_
            refine k _ _ (fun Q' k' => ?_)
            have c6 : ¬ up2 μ.1 (55 + 4 * i) 4 v 86 15 = 1 := by rw [up2_ne (by omega)]; exact c5
            refine wp_iload_n (pc := 0) dX12_set_0 (by first | rfl | assumption | (repeat first | assumption | rfl | refine aG_n ?_ rfl rfl)) ?_
            refine wp_cS (pc := 1) dX12_set_1 lk_12_143 rfl rfl rfl (c_X12_isHouse (fun _ => aK_i ?_) (fun q => absurd (by assumption) q))
            refine wp_if_eq (pc := 4) (tgt := 42) dX12_set_4 rfl (fun q => absurd q (by decide)) (fun _ => ?_)
            refine wp_iload_n (pc := 7) dX12_set_7 (by first | rfl | assumption | (repeat first | assumption | rfl | refine aG_n ?_ rfl rfl)) ?_
            refine wp_i2l (pc := 8) dX12_set_8 ?_
            refine wp_lconst (pc := 9) (v := 0) dX12_set_9 (by decide) ?_
            refine wp_ldc2 (pc := 10) dX12_set_10 cl_12_212 ?_
            refine wp_cS (pc := 13) dX12_set_13 lk_12_133 rfl rfl rfl (c_X12_in (fun _ => aK_i ?_) (fun q => absurd (by rw [w_int]; exact c2) q))
            refine wp_if_eq (pc := 16) (tgt := 42) dX12_set_16 rfl (fun q => absurd q (by decide)) (fun _ => ?_)
            refine wp_iload_n (pc := 19) dX12_set_19 (by first | rfl | assumption | (repeat first | assumption | rfl | refine aG_n ?_ rfl rfl)) ?_
            refine wp_i2l (pc := 20) dX12_set_20 ?_
            refine wp_lconst (pc := 21) (v := 0) dX12_set_21 (by decide) ?_
            refine wp_iload_n (pc := 22) dX12_set_22 (by first | rfl | assumption | (repeat first | assumption | rfl | refine aG_n ?_ rfl rfl)) ?_
            refine wp_iconst (pc := 23) (v := 2) dX12_set_23 (by decide) ?_
            refine wp_icmp_ne (pc := 24) (tgt := 33) dX12_set_24 rfl (fun q => absurd q (by decide)) (fun _ => ?_)
            refine wp_ldc2 (pc := 27) dX12_set_27 cl_12_214 ?_
            refine wp_goto (pc := 30) (tgt := 36) dX12_set_30 rfl ?_
            refine wp_cS (pc := 36) dX12_set_36 lk_12_133 rfl rfl rfl (c_X12_in (fun _ => aK_i ?_) (fun q => absurd (by rw [w_int]; exact c3) q))
            refine wp_if_ne (pc := 39) (tgt := 44) dX12_set_39 rfl (fun _ => ?_) (fun q => absurd q (by decide))
            refine wp_aload_n (pc := 44) dX12_set_44 (by first | rfl | assumption | (repeat first | assumption | rfl | refine aG_n ?_ rfl rfl)) ?_
            refine wp_cV (pc := 45) dX12_set_45 lk_12_147 rfl (by decide) rfl (by first | rfl | assumption | exact sh_house (by omega) | exact sh_wish (by omega) | exact sh_wor (by omega) | exact sh_bar (by omega) | exact sh_term (by omega) | exact sh_sheet (by omega) | exact sh_items (by omega) | exact sh_sums (by omega)) rfl rfl (c_X12_isTalking (fun q => absurd q c6) (fun _ => aK_i ?_))
            refine wp_if_eq (pc := 48) (tgt := 54) dX12_set_48 rfl (fun _ => ?_) (fun q => absurd q (by decide))
            refine wp_iload_n (pc := 54) dX12_set_54 (by first | rfl | assumption | (repeat first | assumption | rfl | refine aG_n ?_ rfl rfl)) ?_
            refine wp_if_ne (pc := 55) (tgt := 67) dX12_set_55 rfl (fun _ => ?_) (fun q => absurd q (by decide))
            refine wp_iload_n (pc := 67) dX12_set_67 (by first | rfl | assumption | (repeat first | assumption | rfl | refine aG_n ?_ rfl rfl)) ?_
            refine wp_iconst (pc := 68) (v := 1) dX12_set_68 (by decide) ?_
            refine wp_icmp_ne (pc := 69) (tgt := 81) dX12_set_69 rfl (fun _ => ?_) (fun q => absurd q (by decide))
            refine wp_aload_n (pc := 81) dX12_set_81 (by first | rfl | assumption | (repeat first | assumption | rfl | refine aG_n ?_ rfl rfl)) ?_
            refine wp_getR (pc := 82) dX12_set_82 fl_12_22 (by first | rfl | assumption | exact sh_house (by omega) | exact sh_wish (by omega) | exact sh_wor (by omega) | exact sh_bar (by omega) | exact sh_term (by omega) | exact sh_sheet (by omega) | exact sh_items (by omega) | exact sh_sums (by omega)) rfl ?_
            refine wp_iload_n (pc := 85) dX12_set_85 (by first | rfl | assumption | (repeat first | assumption | rfl | refine aG_n ?_ rfl rfl)) ?_
            refine wp_iald (pc := 86) dX12_set_86 (by first | rfl | assumption | exact sh_house (by omega) | exact sh_wish (by omega) | exact sh_wor (by omega) | exact sh_bar (by omega) | exact sh_term (by omega) | exact sh_sheet (by omega) | exact sh_items (by omega) | exact sh_sums (by omega)) (vp_in_nI (by omega) (by decide)) ?_
            refine wp_istore (pc := 87) dX12_set_87 (by decide) ?_
            refine wp_iload_n (pc := 89) dX12_set_89 (by first | rfl | assumption | (repeat first | assumption | rfl | refine aG_n ?_ rfl rfl)) ?_
            refine wp_if_ne (pc := 90) (tgt := 103) dX12_set_90 rfl (fun _ => ?_) (fun q => absurd q (by decide))
            refine wp_iload_n (pc := 103) dX12_set_103 (by first | rfl | assumption | (repeat first | assumption | rfl | refine aG_n ?_ rfl rfl)) ?_
            refine wp_iconst (pc := 104) (v := 1) dX12_set_104 (by decide) ?_
            refine wp_icmp_ne (pc := 105) (tgt := 118) dX12_set_105 rfl (fun _ => ?_) (fun q => absurd q (by decide))
            refine wp_aload_n (pc := 118) dX12_set_118 (by first | rfl | assumption | (repeat first | assumption | rfl | refine aG_n ?_ rfl rfl)) ?_
            refine wp_getR (pc := 119) dX12_set_119 fl_12_22 (by first | rfl | assumption | exact sh_house (by omega) | exact sh_wish (by omega) | exact sh_wor (by omega) | exact sh_bar (by omega) | exact sh_term (by omega) | exact sh_sheet (by omega) | exact sh_items (by omega) | exact sh_sums (by omega)) rfl ?_
            refine wp_iload_n (pc := 122) dX12_set_122 (by first | rfl | assumption | (repeat first | assumption | rfl | refine aG_n ?_ rfl rfl)) ?_
            refine wp_iload_n (pc := 123) dX12_set_123 (by first | rfl | assumption | (repeat first | assumption | rfl | refine aG_n ?_ rfl rfl)) ?_
            refine wp_iast (pc := 124) dX12_set_124 (by first | rfl | assumption | exact sh_house (by omega) | exact sh_wish (by omega) | exact sh_wor (by omega) | exact sh_bar (by omega) | exact sh_term (by omega) | exact sh_sheet (by omega) | exact sh_items (by omega) | exact sh_sums (by omega)) (vp_in_nI (by omega) (by decide)) ?_
            refine wp_iload (pc := 125) dX12_set_125 (by first | rfl | assumption | (repeat first | assumption | rfl | refine aG_n ?_ rfl rfl)) ?_
            refine wp_ireturn (pc := 127) dX12_set_127 rfl (by first | rfl | decide | assumption) ?_
            refine qEq ?_ (k' _ ?_)
            · simp (disch := omega) only [nI_clamp, up2_ne]
              exact ((hI.2.2.1 i (by omega)).2.2.1).symm
            · simp (disch := omega) only [nI_clamp]
              refine ⟨own_c (by simp (disch := omega) only [up2_ne, fil_ne]) (fun i9 hi9 => (by simp (disch := omega) only [up2_ne, up2_p, fil_ne, fil_p])) (hI.1), coin_c (by simp (disch := omega) only [up2_ne, fil_ne]) (fun i9 hi9 => (by simp (disch := omega) only [up2_ne, up2_p, fil_ne, fil_p])) (hI.2.1), ?_, wish_c ⟨(by simp (disch := omega) only [up2_ne, fil_ne]), (by simp (disch := omega) only [up2_ne, fil_ne]), (by simp (disch := omega) only [up2_ne, fil_ne]), (by simp (disch := omega) only [up2_ne, fil_ne])⟩ (fun i9 hi9 => ⟨(by simp (disch := omega) only [up2_ne, fil_ne]), (by simp (disch := omega) only [up2_ne, fil_ne]), (by simp (disch := omega) only [up2_ne, fil_ne])⟩) (hI.2.2.2.1), tape_c (by simp (disch := omega) only [up2_ne, up2_p, fil_ne, fil_p]) (by simp (disch := omega) only [up2_ne, up2_p, fil_ne, fil_p]) (by simp (disch := omega) only [up2_ne, fil_ne]) (by simp (disch := omega) only [up2_ne, fil_ne]) (hI.2.2.2.2.1), talk_c ⟨(by simp (disch := omega) only [up2_ne, fil_ne]), (by simp (disch := omega) only [up2_ne, fil_ne]), (by simp (disch := omega) only [up2_ne, fil_ne]), (by simp (disch := omega) only [up2_ne, fil_ne]), (by simp (disch := omega) only [up2_ne, fil_ne])⟩ ⟨(by simp (disch := omega) only [up2_ne, fil_ne]), (by simp (disch := omega) only [up2_ne, fil_ne]), (by simp (disch := omega) only [up2_ne, fil_ne])⟩ (fun j9 hj9 hk9 => (by simp (disch := omega) only [up2_ne, up2_p, fil_ne, fil_p])) (fun o9 => absurd o9 c5) rfl (hI.2.2.2.2.2.1), led_c (by simp (disch := omega) only [up2_ne, up2_p, fil_ne, fil_p]) (by simp (disch := omega) only [up2_ne, up2_p, fil_ne, fil_p]) (fun i9 hi9 => (by simp (disch := omega) only [up2_ne, fil_ne])) (fun c9 hc9 hd9 => (by simp (disch := omega) only [up2_ne, fil_ne])) ⟨(by simp (disch := omega) only [up2_ne, fil_ne]), (by simp (disch := omega) only [up2_ne, fil_ne])⟩ (hI.2.2.2.2.2.2.1), row_c (by simp (disch := omega) only [up2_ne, fil_ne]) (by simp (disch := omega) only [up2_ne, fil_ne]) (hI.2.2.2.2.2.2.2.1), sheet_c ⟨(by simp (disch := omega) only [up2_ne, fil_ne]), (by simp (disch := omega) only [up2_ne, fil_ne]), (by simp (disch := omega) only [up2_ne, fil_ne])⟩ (fun s9 hs9 => ⟨(by simp (disch := omega) only [up2_ne, fil_ne]), (by simp (disch := omega) only [up2_ne, fil_ne])⟩) (hI.2.2.2.2.2.2.2.2.1), grp_c (by simp (disch := omega) only [up2_ne, up2_p, fil_ne, fil_p]) (fun g9 hg9 => (by simp (disch := omega) only [up2_ne, fil_ne])) (fun i9 hi9 => ⟨(by simp (disch := omega) only [up2_ne, fil_ne]), (by simp (disch := omega) only [up2_ne, fil_ne])⟩) (hI.2.2.2.2.2.2.2.2.2)⟩
              intro q hq
              have hh := hI.2.2.1 q hq
              by_cases e : q = i
              · subst e
                simp (disch := omega) only [up2_ne, up2_at, up2_p]
                exact ⟨hh.1, hh.2.1, ⟨trivial, c3⟩⟩
              · simp (disch := omega) only [up2_ne, up2_p]
                exact hh
        · refine wp_iload_n (pc := 0) dX11_set_0 (by first | rfl | assumption | (repeat first | assumption | rfl | refine aG_n ?_ rfl rfl)) ?_
          refine wp_cS (pc := 1) dX11_set_1 lk_11_101 rfl rfl rfl (c_X11_isHouse (fun _ => aK_i ?_) (fun q => absurd (by assumption) q))
          refine wp_if_eq (pc := 4) (tgt := 37) dX11_set_4 rfl (fun q => absurd q (by decide)) (fun _ => ?_)
          refine wp_iload_n (pc := 7) dX11_set_7 (by first | rfl | assumption | (repeat first | assumption | rfl | refine aG_n ?_ rfl rfl)) ?_
          refine wp_iconst (pc := 8) (v := 0) dX11_set_8 (by decide) ?_
          refine wp_iconst (pc := 9) (v := 2) dX11_set_9 (by decide) ?_
          refine wp_cS (pc := 10) dX11_set_10 lk_11_112 rfl rfl rfl (c_X11_isWithin (fun _ => aK_i ?_) (fun q => absurd c2 q))
          refine wp_if_eq (pc := 13) (tgt := 37) dX11_set_13 rfl (fun q => absurd q (by decide)) (fun _ => ?_)
          refine wp_iload_n (pc := 16) dX11_set_16 (by first | rfl | assumption | (repeat first | assumption | rfl | refine aG_n ?_ rfl rfl)) ?_
          refine wp_iconst (pc := 17) (v := 0) dX11_set_17 (by decide) ?_
          refine wp_iload_n (pc := 18) dX11_set_18 (by first | rfl | assumption | (repeat first | assumption | rfl | refine aG_n ?_ rfl rfl)) ?_
          refine wp_iconst (pc := 19) (v := 2) dX11_set_19 (by decide) ?_
          refine wp_icmp_ne (pc := 20) (tgt := 28) dX11_set_20 rfl (fun q => absurd q (by decide)) (fun _ => ?_)
          refine wp_bipush (pc := 23) (v := 99) dX11_set_23 (by decide) ?_
          refine wp_goto (pc := 25) (tgt := 31) dX11_set_25 rfl ?_
          refine wp_cS (pc := 31) dX11_set_31 lk_11_112 rfl rfl rfl (c_X11_isWithin (fun q => absurd q c3) (fun _ => aK_i ?_))
          refine wp_if_ne (pc := 34) (tgt := 39) dX11_set_34 rfl (fun q => absurd q (by decide)) (fun _ => ?_)
          refine wp_iconst (pc := 37) (v := -1) dX11_set_37 (by decide) ?_
          refine wp_ireturn (pc := 38) dX11_set_38 rfl (by first | rfl | decide | assumption) ?_
          refine k _ _ (fun Q' k' => ?_)
          refine wp_iload_n (pc := 0) dX12_set_0 (by first | rfl | assumption | (repeat first | assumption | rfl | refine aG_n ?_ rfl rfl)) ?_
          refine wp_cS (pc := 1) dX12_set_1 lk_12_143 rfl rfl rfl (c_X12_isHouse (fun _ => aK_i ?_) (fun q => absurd (by assumption) q))
          refine wp_if_eq (pc := 4) (tgt := 42) dX12_set_4 rfl (fun q => absurd q (by decide)) (fun _ => ?_)
          refine wp_iload_n (pc := 7) dX12_set_7 (by first | rfl | assumption | (repeat first | assumption | rfl | refine aG_n ?_ rfl rfl)) ?_
          refine wp_i2l (pc := 8) dX12_set_8 ?_
          refine wp_lconst (pc := 9) (v := 0) dX12_set_9 (by decide) ?_
          refine wp_ldc2 (pc := 10) dX12_set_10 cl_12_212 ?_
          refine wp_cS (pc := 13) dX12_set_13 lk_12_133 rfl rfl rfl (c_X12_in (fun _ => aK_i ?_) (fun q => absurd (by rw [w_int]; exact c2) q))
          refine wp_if_eq (pc := 16) (tgt := 42) dX12_set_16 rfl (fun q => absurd q (by decide)) (fun _ => ?_)
          refine wp_iload_n (pc := 19) dX12_set_19 (by first | rfl | assumption | (repeat first | assumption | rfl | refine aG_n ?_ rfl rfl)) ?_
          refine wp_i2l (pc := 20) dX12_set_20 ?_
          refine wp_lconst (pc := 21) (v := 0) dX12_set_21 (by decide) ?_
          refine wp_iload_n (pc := 22) dX12_set_22 (by first | rfl | assumption | (repeat first | assumption | rfl | refine aG_n ?_ rfl rfl)) ?_
          refine wp_iconst (pc := 23) (v := 2) dX12_set_23 (by decide) ?_
          refine wp_icmp_ne (pc := 24) (tgt := 33) dX12_set_24 rfl (fun q => absurd q (by decide)) (fun _ => ?_)
          refine wp_ldc2 (pc := 27) dX12_set_27 cl_12_214 ?_
          refine wp_goto (pc := 30) (tgt := 36) dX12_set_30 rfl ?_
          refine wp_cS (pc := 36) dX12_set_36 lk_12_133 rfl rfl rfl (c_X12_in (fun q => absurd q (by rw [w_int]; exact c3)) (fun _ => aK_i ?_))
          refine wp_if_ne (pc := 39) (tgt := 44) dX12_set_39 rfl (fun q => absurd q (by decide)) (fun _ => ?_)
          refine wp_iconst (pc := 42) (v := -1) dX12_set_42 (by decide) ?_
          refine wp_ireturn (pc := 43) dX12_set_43 rfl (by first | rfl | decide | assumption) ?_
          exact k' _ hI
      | _ + 3, hj => omega
    · refine wp_iload_n (pc := 0) dX11_set_0 (by first | rfl | assumption | (repeat first | assumption | rfl | refine aG_n ?_ rfl rfl)) ?_
      refine wp_cS (pc := 1) dX11_set_1 lk_11_101 rfl rfl rfl (c_X11_isHouse (fun _ => aK_i ?_) (fun q => absurd (by assumption) q))
      refine wp_if_eq (pc := 4) (tgt := 37) dX11_set_4 rfl (fun q => absurd q (by decide)) (fun _ => ?_)
      refine wp_iload_n (pc := 7) dX11_set_7 (by first | rfl | assumption | (repeat first | assumption | rfl | refine aG_n ?_ rfl rfl)) ?_
      refine wp_iconst (pc := 8) (v := 0) dX11_set_8 (by decide) ?_
      refine wp_iconst (pc := 9) (v := 2) dX11_set_9 (by decide) ?_
      refine wp_cS (pc := 10) dX11_set_10 lk_11_112 rfl rfl rfl (c_X11_isWithin (fun q => absurd q c2) (fun _ => aK_i ?_))
      refine wp_if_eq (pc := 13) (tgt := 37) dX11_set_13 rfl (fun _ => ?_) (fun q => absurd q (by decide))
      refine wp_iconst (pc := 37) (v := -1) dX11_set_37 (by decide) ?_
      refine wp_ireturn (pc := 38) dX11_set_38 rfl (by first | rfl | decide | assumption) ?_
      refine k _ _ (fun Q' k' => ?_)
      refine wp_iload_n (pc := 0) dX12_set_0 (by first | rfl | assumption | (repeat first | assumption | rfl | refine aG_n ?_ rfl rfl)) ?_
      refine wp_cS (pc := 1) dX12_set_1 lk_12_143 rfl rfl rfl (c_X12_isHouse (fun _ => aK_i ?_) (fun q => absurd (by assumption) q))
      refine wp_if_eq (pc := 4) (tgt := 42) dX12_set_4 rfl (fun q => absurd q (by decide)) (fun _ => ?_)
      refine wp_iload_n (pc := 7) dX12_set_7 (by first | rfl | assumption | (repeat first | assumption | rfl | refine aG_n ?_ rfl rfl)) ?_
      refine wp_i2l (pc := 8) dX12_set_8 ?_
      refine wp_lconst (pc := 9) (v := 0) dX12_set_9 (by decide) ?_
      refine wp_ldc2 (pc := 10) dX12_set_10 cl_12_212 ?_
      refine wp_cS (pc := 13) dX12_set_13 lk_12_133 rfl rfl rfl (c_X12_in (fun q => absurd q (by rw [w_int]; exact c2)) (fun _ => aK_i ?_))
      refine wp_if_eq (pc := 16) (tgt := 42) dX12_set_16 rfl (fun _ => ?_) (fun q => absurd q (by decide))
      refine wp_iconst (pc := 42) (v := -1) dX12_set_42 (by decide) ?_
      refine wp_ireturn (pc := 43) dX12_set_43 rfl (by first | rfl | decide | assumption) ?_
      exact k' _ hI
  · refine wp_iload_n (pc := 0) dX11_set_0 (by first | rfl | assumption | (repeat first | assumption | rfl | refine aG_n ?_ rfl rfl)) ?_
    refine wp_cS (pc := 1) dX11_set_1 lk_11_101 rfl rfl rfl (c_X11_isHouse (fun q => absurd q c1) (fun _ => aK_i ?_))
    refine wp_if_eq (pc := 4) (tgt := 37) dX11_set_4 rfl (fun _ => ?_) (fun q => absurd q (by decide))
    refine wp_iconst (pc := 37) (v := -1) dX11_set_37 (by decide) ?_
    refine wp_ireturn (pc := 38) dX11_set_38 rfl (by first | rfl | decide | assumption) ?_
    refine k _ _ (fun Q' k' => ?_)
    refine wp_iload_n (pc := 0) dX12_set_0 (by first | rfl | assumption | (repeat first | assumption | rfl | refine aG_n ?_ rfl rfl)) ?_
    refine wp_cS (pc := 1) dX12_set_1 lk_12_143 rfl rfl rfl (c_X12_isHouse (fun q => absurd q c1) (fun _ => aK_i ?_))
    refine wp_if_eq (pc := 4) (tgt := 42) dX12_set_4 rfl (fun _ => ?_) (fun q => absurd q (by decide))
    refine wp_iconst (pc := 42) (v := -1) dX12_set_42 (by decide) ?_
    refine wp_ireturn (pc := 43) dX12_set_43 rfl (by first | rfl | decide | assumption) ?_
    exact k' _ hI

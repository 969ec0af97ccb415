theorem J_coins (h v : Int32) : Jnt mX11_coins mX12_coins [.int h, .int v] := by
  intro X μ Q hI k
  by_cases c1 : inR h 0 3
  · by_cases c2 : inR v 0 9999
    · by_cases c3 : μ.1 73 0 = 1
      · have c4 : μ.1 86 15 = 1 := hI.2.2.2.2.2.1.1 ▸ c3
        refine wp_iload_n (pc := 0) dX11_coins_0 (by first | rfl | assumption | (repeat first | assumption | rfl | refine aG_n ?_ rfl rfl)) ?_
        refine wp_cS (pc := 1) dX11_coins_1 lk_11_101 rfl rfl rfl (c_X11_isHouse (fun _ => aK_i ?_) (fun q => absurd c1 q))
        refine wp_if_eq (pc := 4) (tgt := 18) dX11_coins_4 rfl (fun q => absurd q (by decide)) (fun _ => ?_)
        refine wp_iload_n (pc := 7) dX11_coins_7 (by first | rfl | assumption | (repeat first | assumption | rfl | refine aG_n ?_ rfl rfl)) ?_
        refine wp_iconst (pc := 8) (v := 0) dX11_coins_8 (by decide) ?_
        refine wp_sipush (pc := 9) (v := 9999) dX11_coins_9 (by decide) ?_
        refine wp_cS (pc := 12) dX11_coins_12 lk_11_112 rfl rfl rfl (c_X11_isWithin (fun _ => aK_i ?_) (fun q => absurd c2 q))
        refine wp_if_ne (pc := 15) (tgt := 20) dX11_coins_15 rfl (fun _ => ?_) (fun q => absurd q (by decide))
        refine wp_aload_n (pc := 20) dX11_coins_20 (by first | rfl | assumption | (repeat first | assumption | rfl | refine aG_n ?_ rfl rfl)) ?_
        refine wp_getR (pc := 21) dX11_coins_21 fl_11_92 (by first | rfl | assumption | exact sh_house (by omega) | exact sh_wish (by omega) | exact sh_wor (by omega) | exact sh_bar (by omega) | exact sh_term (by omega) | exact sh_sheet (by omega) | exact sh_items (by omega) | exact sh_sums (by omega)) rfl ?_
        refine wp_cV (pc := 24) dX11_coins_24 lk_11_104 rfl (by decide) rfl (by first | rfl | assumption | exact sh_house (by omega) | exact sh_wish (by omega) | exact sh_wor (by omega) | exact sh_bar (by omega) | exact sh_term (by omega) | exact sh_sheet (by omega) | exact sh_items (by omega) | exact sh_sums (by omega)) rfl rfl (c_X7_isOpen (fun _ => aK_i ?_) (fun q => absurd c3 q))
        refine wp_if_eq (pc := 27) (tgt := 33) dX11_coins_27 rfl (fun q => absurd q (by decide)) (fun _ => ?_)
        refine wp_bipush (pc := 30) (v := -2) dX11_coins_30 (by decide) ?_
        refine wp_ireturn (pc := 32) dX11_coins_32 rfl (by first | rfl | decide | assumption) ?_
        refine k _ _ (fun Q' k' => ?_)
        refine wp_iload_n (pc := 0) dX12_coins_0 (by first | rfl | assumption | (repeat first | assumption | rfl | refine aG_n ?_ rfl rfl)) ?_
        refine wp_cS (pc := 1) dX12_coins_1 lk_12_143 rfl rfl rfl (c_X12_isHouse (fun _ => aK_i ?_) (fun q => absurd c1 q))
        refine wp_if_eq (pc := 4) (tgt := 19) dX12_coins_4 rfl (fun q => absurd q (by decide)) (fun _ => ?_)
        refine wp_iload_n (pc := 7) dX12_coins_7 (by first | rfl | assumption | (repeat first | assumption | rfl | refine aG_n ?_ rfl rfl)) ?_
        refine wp_i2l (pc := 8) dX12_coins_8 ?_
        refine wp_lconst (pc := 9) (v := 0) dX12_coins_9 (by decide) ?_
        refine wp_ldc2 (pc := 10) dX12_coins_10 cl_12_151 ?_
        refine wp_cS (pc := 13) dX12_coins_13 lk_12_133 rfl rfl rfl (c_X12_in (fun _ => aK_i ?_) (fun q => absurd (by rw [w_int]; exact c2) q))
        refine wp_if_ne (pc := 16) (tgt := 21) dX12_coins_16 rfl (fun _ => ?_) (fun q => absurd q (by decide))
        refine wp_aload_n (pc := 21) dX12_coins_21 (by first | rfl | assumption | (repeat first | assumption | rfl | refine aG_n ?_ rfl rfl)) ?_
        refine wp_cV (pc := 22) dX12_coins_22 lk_12_147 rfl (by decide) rfl (by first | rfl | assumption | exact sh_house (by omega) | exact sh_wish (by omega) | exact sh_wor (by omega) | exact sh_bar (by omega) | exact sh_term (by omega) | exact sh_sheet (by omega) | exact sh_items (by omega) | exact sh_sums (by omega)) rfl rfl (c_X12_isTalking (fun _ => aK_i ?_) (fun q => absurd c4 q))
        refine wp_if_eq (pc := 25) (tgt := 31) dX12_coins_25 rfl (fun q => absurd q (by decide)) (fun _ => ?_)
        refine wp_bipush (pc := 28) (v := -2) dX12_coins_28 (by decide) ?_
        refine wp_ireturn (pc := 30) dX12_coins_30 rfl (by first | rfl | decide | assumption) ?_
        exact k' _ hI
      · have c4 : ¬ μ.1 86 15 = 1 := fun z => c3 (hI.2.2.2.2.2.1.1.trans z)
        obtain ⟨i, hi, rfl⟩ := inR_of (n := 3) c1
        refine wp_iload_n (pc := 0) dX11_coins_0 (by first | rfl | assumption | (repeat first | assumption | rfl | refine aG_n ?_ rfl rfl)) ?_
        refine wp_cS (pc := 1) dX11_coins_1 lk_11_101 rfl rfl rfl (c_X11_isHouse (fun _ => aK_i ?_) (fun q => absurd c1 q))
        refine wp_if_eq (pc := 4) (tgt := 18) dX11_coins_4 rfl (fun q => absurd q (by decide)) (fun _ => ?_)
        refine wp_iload_n (pc := 7) dX11_coins_7 (by first | rfl | assumption | (repeat first | assumption | rfl | refine aG_n ?_ rfl rfl)) ?_
        refine wp_iconst (pc := 8) (v := 0) dX11_coins_8 (by decide) ?_
        refine wp_sipush (pc := 9) (v := 9999) dX11_coins_9 (by decide) ?_
        refine wp_cS (pc := 12) dX11_coins_12 lk_11_112 rfl rfl rfl (c_X11_isWithin (fun _ => aK_i ?_) (fun q => absurd c2 q))
        refine wp_if_ne (pc := 15) (tgt := 20) dX11_coins_15 rfl (fun _ => ?_) (fun q => absurd q (by decide))
        refine wp_aload_n (pc := 20) dX11_coins_20 (by first | rfl | assumption | (repeat first | assumption | rfl | refine aG_n ?_ rfl rfl)) ?_
        refine wp_getR (pc := 21) dX11_coins_21 fl_11_92 (by first | rfl | assumption | exact sh_house (by omega) | exact sh_wish (by omega) | exact sh_wor (by omega) | exact sh_bar (by omega) | exact sh_term (by omega) | exact sh_sheet (by omega) | exact sh_items (by omega) | exact sh_sums (by omega)) rfl ?_
        refine wp_cV (pc := 24) dX11_coins_24 lk_11_104 rfl (by decide) rfl (by first | rfl | assumption | exact sh_house (by omega) | exact sh_wish (by omega) | exact sh_wor (by omega) | exact sh_bar (by omega) | exact sh_term (by omega) | exact sh_sheet (by omega) | exact sh_items (by omega) | exact sh_sums (by omega)) rfl rfl (c_X7_isOpen (fun q => absurd q c3) (fun _ => aK_i ?_))
        refine wp_if_eq (pc := 27) (tgt := 33) dX11_coins_27 rfl (fun _ => ?_) (fun q => absurd q (by decide))
        refine wp_aload_n (pc := 33) dX11_coins_33 (by first | rfl | assumption | (repeat first | assumption | rfl | refine aG_n ?_ rfl rfl)) ?_
        refine wp_getR (pc := 34) dX11_coins_34 fl_11_11 (by first | rfl | assumption | exact sh_house (by omega) | exact sh_wish (by omega) | exact sh_wor (by omega) | exact sh_bar (by omega) | exact sh_term (by omega) | exact sh_sheet (by omega) | exact sh_items (by omega) | exact sh_sums (by omega)) rfl ?_
        refine wp_iload_n (pc := 37) dX11_coins_37 (by first | rfl | assumption | (repeat first | assumption | rfl | refine aG_n ?_ rfl rfl)) ?_
        refine wp_aald (pc := 38) dX11_coins_38 (by first | rfl | assumption | exact sh_house (by omega) | exact sh_wish (by omega) | exact sh_wor (by omega) | exact sh_bar (by omega) | exact sh_term (by omega) | exact sh_sheet (by omega) | exact sh_items (by omega) | exact sh_sums (by omega)) (vp_in_nI (by omega) (by decide)) (by decide) (el_house (by omega)) ?_
        refine wp_getI (pc := 39) dX11_coins_39 fl_11_116 (by first | rfl | assumption | exact sh_house (by omega) | exact sh_wish (by omega) | exact sh_wor (by omega) | exact sh_bar (by omega) | exact sh_term (by omega) | exact sh_sheet (by omega) | exact sh_items (by omega) | exact sh_sums (by omega)) rfl ?_
        refine wp_istore_n (pc := 42) dX11_coins_42 (by decide) ?_
        refine wp_aload_n (pc := 43) dX11_coins_43 (by first | rfl | assumption | (repeat first | assumption | rfl | refine aG_n ?_ rfl rfl)) ?_
        refine wp_getR (pc := 44) dX11_coins_44 fl_11_11 (by first | rfl | assumption | exact sh_house (by omega) | exact sh_wish (by omega) | exact sh_wor (by omega) | exact sh_bar (by omega) | exact sh_term (by omega) | exact sh_sheet (by omega) | exact sh_items (by omega) | exact sh_sums (by omega)) rfl ?_
        refine wp_iload_n (pc := 47) dX11_coins_47 (by first | rfl | assumption | (repeat first | assumption | rfl | refine aG_n ?_ rfl rfl)) ?_
        refine wp_aald (pc := 48) dX11_coins_48 (by first | rfl | assumption | exact sh_house (by omega) | exact sh_wish (by omega) | exact sh_wor (by omega) | exact sh_bar (by omega) | exact sh_term (by omega) | exact sh_sheet (by omega) | exact sh_items (by omega) | exact sh_sums (by omega)) (vp_in_nI (by omega) (by decide)) (by decide) (el_house (by omega)) ?_
        refine wp_iload_n (pc := 49) dX11_coins_49 (by first | rfl | assumption | (repeat first | assumption | rfl | refine aG_n ?_ rfl rfl)) ?_
        refine wp_putI (pc := 50) dX11_coins_50 fl_11_116 (by first | rfl | assumption | exact sh_house (by omega) | exact sh_wish (by omega) | exact sh_wor (by omega) | exact sh_bar (by omega) | exact sh_term (by omega) | exact sh_sheet (by omega) | exact sh_items (by omega) | exact sh_sums (by omega)) rfl rfl rfl ?_
        refine wp_iload_n (pc := 53) dX11_coins_53 (by first | rfl | assumption | (repeat first | assumption | rfl | refine aG_n ?_ rfl rfl)) ?_
        refine wp_ireturn (pc := 54) dX11_coins_54 rfl (by first | rfl | decide | assumption) ?_
        refine k _ _ (fun Q' k' => ?_)
        have c5 : ¬ up2 μ.1 (55 + 4 * i) 1 v 86 15 = 1 := by rw [up2_ne (by omega)]; exact c4
        refine wp_iload_n (pc := 0) dX12_coins_0 (by first | rfl | assumption | (repeat first | assumption | rfl | refine aG_n ?_ rfl rfl)) ?_
        refine wp_cS (pc := 1) dX12_coins_1 lk_12_143 rfl rfl rfl (c_X12_isHouse (fun _ => aK_i ?_) (fun q => absurd c1 q))
        refine wp_if_eq (pc := 4) (tgt := 19) dX12_coins_4 rfl (fun q => absurd q (by decide)) (fun _ => ?_)
        refine wp_iload_n (pc := 7) dX12_coins_7 (by first | rfl | assumption | (repeat first | assumption | rfl | refine aG_n ?_ rfl rfl)) ?_
        refine wp_i2l (pc := 8) dX12_coins_8 ?_
        refine wp_lconst (pc := 9) (v := 0) dX12_coins_9 (by decide) ?_
        refine wp_ldc2 (pc := 10) dX12_coins_10 cl_12_151 ?_
        refine wp_cS (pc := 13) dX12_coins_13 lk_12_133 rfl rfl rfl (c_X12_in (fun _ => aK_i ?_) (fun q => absurd (by rw [w_int]; exact c2) q))
        refine wp_if_ne (pc := 16) (tgt := 21) dX12_coins_16 rfl (fun _ => ?_) (fun q => absurd q (by decide))
        refine wp_aload_n (pc := 21) dX12_coins_21 (by first | rfl | assumption | (repeat first | assumption | rfl | refine aG_n ?_ rfl rfl)) ?_
        refine wp_cV (pc := 22) dX12_coins_22 lk_12_147 rfl (by decide) rfl (by first | rfl | assumption | exact sh_house (by omega) | exact sh_wish (by omega) | exact sh_wor (by omega) | exact sh_bar (by omega) | exact sh_term (by omega) | exact sh_sheet (by omega) | exact sh_items (by omega) | exact sh_sums (by omega)) rfl rfl (c_X12_isTalking (fun q => absurd q c5) (fun _ => aK_i ?_))
        refine wp_if_eq (pc := 25) (tgt := 31) dX12_coins_25 rfl (fun _ => ?_) (fun q => absurd q (by decide))
        refine wp_aload_n (pc := 31) dX12_coins_31 (by first | rfl | assumption | (repeat first | assumption | rfl | refine aG_n ?_ rfl rfl)) ?_
        refine wp_getR (pc := 32) dX12_coins_32 fl_12_13 (by first | rfl | assumption | exact sh_house (by omega) | exact sh_wish (by omega) | exact sh_wor (by omega) | exact sh_bar (by omega) | exact sh_term (by omega) | exact sh_sheet (by omega) | exact sh_items (by omega) | exact sh_sums (by omega)) rfl ?_
        refine wp_iload_n (pc := 35) dX12_coins_35 (by first | rfl | assumption | (repeat first | assumption | rfl | refine aG_n ?_ rfl rfl)) ?_
        refine wp_iald (pc := 36) dX12_coins_36 (by first | rfl | assumption | exact sh_house (by omega) | exact sh_wish (by omega) | exact sh_wor (by omega) | exact sh_bar (by omega) | exact sh_term (by omega) | exact sh_sheet (by omega) | exact sh_items (by omega) | exact sh_sums (by omega)) (vp_in_nI (by omega) (by decide)) ?_
        refine wp_istore_n (pc := 37) dX12_coins_37 (by decide) ?_
        refine wp_aload_n (pc := 38) dX12_coins_38 (by first | rfl | assumption | (repeat first | assumption | rfl | refine aG_n ?_ rfl rfl)) ?_
        refine wp_getR (pc := 39) dX12_coins_39 fl_12_13 (by first | rfl | assumption | exact sh_house (by omega) | exact sh_wish (by omega) | exact sh_wor (by omega) | exact sh_bar (by omega) | exact sh_term (by omega) | exact sh_sheet (by omega) | exact sh_items (by omega) | exact sh_sums (by omega)) rfl ?_
        refine wp_iload_n (pc := 42) dX12_coins_42 (by first | rfl | assumption | (repeat first | assumption | rfl | refine aG_n ?_ rfl rfl)) ?_
        refine wp_iload_n (pc := 43) dX12_coins_43 (by first | rfl | assumption | (repeat first | assumption | rfl | refine aG_n ?_ rfl rfl)) ?_
        refine wp_iast (pc := 44) dX12_coins_44 (by first | rfl | assumption | exact sh_house (by omega) | exact sh_wish (by omega) | exact sh_wor (by omega) | exact sh_bar (by omega) | exact sh_term (by omega) | exact sh_sheet (by omega) | exact sh_items (by omega) | exact sh_sums (by omega)) (vp_in_nI (by omega) (by decide)) ?_
        refine wp_iload_n (pc := 45) dX12_coins_45 (by first | rfl | assumption | (repeat first | assumption | rfl | refine aG_n ?_ rfl rfl)) ?_
        refine wp_ireturn (pc := 46) dX12_coins_46 rfl (by first | rfl | decide | assumption) ?_
        refine qEq ?_ (k' _ ?_)
        · simp (disch := omega) only [nI_clamp, up2_ne]
          exact ((hI.2.1 i (by omega)).1).symm
        · simp (disch := omega) only [nI_clamp]
          refine ⟨own_c (by simp (disch := omega) only [up2_ne, fil_ne]) (fun i9 hi9 => (by simp (disch := omega) only [up2_ne, up2_p, fil_ne, fil_p])) (hI.1), ?_, lev_c ⟨(by simp (disch := omega) only [up2_ne, fil_ne]), (by simp (disch := omega) only [up2_ne, fil_ne]), (by simp (disch := omega) only [up2_ne, fil_ne])⟩ (fun i9 hi9 => ⟨(by simp (disch := omega) only [up2_ne, up2_p, fil_ne, fil_p]), (by simp (disch := omega) only [up2_ne, up2_p, fil_ne, fil_p]), (by simp (disch := omega) only [up2_ne, up2_p, fil_ne, fil_p])⟩) (hI.2.2.1), wish_c ⟨(by simp (disch := omega) only [up2_ne, fil_ne]), (by simp (disch := omega) only [up2_ne, fil_ne]), (by simp (disch := omega) only [up2_ne, fil_ne]), (by simp (disch := omega) only [up2_ne, fil_ne])⟩ (fun i9 hi9 => ⟨(by simp (disch := omega) only [up2_ne, fil_ne]), (by simp (disch := omega) only [up2_ne, fil_ne]), (by simp (disch := omega) only [up2_ne, fil_ne])⟩) (hI.2.2.2.1), tape_c (by simp (disch := omega) only [up2_ne, up2_p, fil_ne, fil_p]) (by simp (disch := omega) only [up2_ne, up2_p, fil_ne, fil_p]) (by simp (disch := omega) only [up2_ne, fil_ne]) (by simp (disch := omega) only [up2_ne, fil_ne]) (hI.2.2.2.2.1), talk_c ⟨(by simp (disch := omega) only [up2_ne, fil_ne]), (by simp (disch := omega) only [up2_ne, fil_ne]), (by simp (disch := omega) only [up2_ne, fil_ne]), (by simp (disch := omega) only [up2_ne, fil_ne]), (by simp (disch := omega) only [up2_ne, fil_ne])⟩ ⟨(by simp (disch := omega) only [up2_ne, fil_ne]), (by simp (disch := omega) only [up2_ne, fil_ne]), (by simp (disch := omega) only [up2_ne, fil_ne])⟩ (fun j9 hj9 hk9 => (by simp (disch := omega) only [up2_ne, up2_p, fil_ne, fil_p])) (fun o9 => absurd o9 c4) rfl (hI.2.2.2.2.2.1), led_c (by simp (disch := omega) only [up2_ne, up2_p, fil_ne, fil_p]) (by simp (disch := omega) only [up2_ne, up2_p, fil_ne, fil_p]) (fun i9 hi9 => (by simp (disch := omega) only [up2_ne, fil_ne])) (fun c9 hc9 hd9 => (by simp (disch := omega) only [up2_ne, fil_ne])) ⟨(by simp (disch := omega) only [up2_ne, fil_ne]), (by simp (disch := omega) only [up2_ne, fil_ne])⟩ (hI.2.2.2.2.2.2.1), row_c (by simp (disch := omega) only [up2_ne, fil_ne]) (by simp (disch := omega) only [up2_ne, fil_ne]) (hI.2.2.2.2.2.2.2.1), sheet_c ⟨(by simp (disch := omega) only [up2_ne, fil_ne]), (by simp (disch := omega) only [up2_ne, fil_ne]), (by simp (disch := omega) only [up2_ne, fil_ne])⟩ (fun s9 hs9 => ⟨(by simp (disch := omega) only [up2_ne, fil_ne]), (by simp (disch := omega) only [up2_ne, fil_ne])⟩) (hI.2.2.2.2.2.2.2.2.1), grp_c (by simp (disch := omega) only [up2_ne, up2_p, fil_ne, fil_p]) (fun g9 hg9 => (by simp (disch := omega) only [up2_ne, fil_ne])) (fun i9 hi9 => ⟨(by simp (disch := omega) only [up2_ne, fil_ne]), (by simp (disch := omega) only [up2_ne, fil_ne])⟩) (hI.2.2.2.2.2.2.2.2.2)⟩
          intro q hq
          by_cases e : q = i
          · subst e
            simp (disch := omega) only [up2_ne, up2_at]
            exact ⟨trivial, c2⟩
          · simp (disch := omega) only [up2_ne, up2_p]
            exact hI.2.1 q hq
    · refine wp_iload_n (pc := 0) dX11_coins_0 (by first | rfl | assumption | (repeat first | assumption | rfl | refine aG_n ?_ rfl rfl)) ?_
      refine wp_cS (pc := 1) dX11_coins_1 lk_11_101 rfl rfl rfl (c_X11_isHouse (fun _ => aK_i ?_) (fun q => absurd c1 q))
      refine wp_if_eq (pc := 4) (tgt := 18) dX11_coins_4 rfl (fun q => absurd q (by decide)) (fun _ => ?_)
      refine wp_iload_n (pc := 7) dX11_coins_7 (by first | rfl | assumption | (repeat first | assumption | rfl | refine aG_n ?_ rfl rfl)) ?_
      refine wp_iconst (pc := 8) (v := 0) dX11_coins_8 (by decide) ?_
      refine wp_sipush (pc := 9) (v := 9999) dX11_coins_9 (by decide) ?_
      refine wp_cS (pc := 12) dX11_coins_12 lk_11_112 rfl rfl rfl (c_X11_isWithin (fun q => absurd q c2) (fun _ => aK_i ?_))
      refine wp_if_ne (pc := 15) (tgt := 20) dX11_coins_15 rfl (fun q => absurd q (by decide)) (fun _ => ?_)
      refine wp_iconst (pc := 18) (v := -1) dX11_coins_18 (by decide) ?_
      refine wp_ireturn (pc := 19) dX11_coins_19 rfl (by first | rfl | decide | assumption) ?_
      refine k _ _ (fun Q' k' => ?_)
      refine wp_iload_n (pc := 0) dX12_coins_0 (by first | rfl | assumption | (repeat first | assumption | rfl | refine aG_n ?_ rfl rfl)) ?_
      refine wp_cS (pc := 1) dX12_coins_1 lk_12_143 rfl rfl rfl (c_X12_isHouse (fun _ => aK_i ?_) (fun q => absurd c1 q))
      refine wp_if_eq (pc := 4) (tgt := 19) dX12_coins_4 rfl (fun q => absurd q (by decide)) (fun _ => ?_)
      refine wp_iload_n (pc := 7) dX12_coins_7 (by first | rfl | assumption | (repeat first | assumption | rfl | refine aG_n ?_ rfl rfl)) ?_
      refine wp_i2l (pc := 8) dX12_coins_8 ?_
      refine wp_lconst (pc := 9) (v := 0) dX12_coins_9 (by decide) ?_
      refine wp_ldc2 (pc := 10) dX12_coins_10 cl_12_151 ?_
      refine wp_cS (pc := 13) dX12_coins_13 lk_12_133 rfl rfl rfl (c_X12_in (fun q => absurd q (by rw [w_int]; exact c2)) (fun _ => aK_i ?_))
      refine wp_if_ne (pc := 16) (tgt := 21) dX12_coins_16 rfl (fun q => absurd q (by decide)) (fun _ => ?_)
      refine wp_iconst (pc := 19) (v := -1) dX12_coins_19 (by decide) ?_
      refine wp_ireturn (pc := 20) dX12_coins_20 rfl (by first | rfl | decide | assumption) ?_
      exact k' _ hI
  · refine wp_iload_n (pc := 0) dX11_coins_0 (by first | rfl | assumption | (repeat first | assumption | rfl | refine aG_n ?_ rfl rfl)) ?_
    refine wp_cS (pc := 1) dX11_coins_1 lk_11_101 rfl rfl rfl (c_X11_isHouse (fun q => absurd q c1) (fun _ => aK_i ?_))
    refine wp_if_eq (pc := 4) (tgt := 18) dX11_coins_4 rfl (fun _ => ?_) (fun q => absurd q (by decide))
    refine wp_iconst (pc := 18) (v := -1) dX11_coins_18 (by decide) ?_
    refine wp_ireturn (pc := 19) dX11_coins_19 rfl (by first | rfl | decide | assumption) ?_
    refine k _ _ (fun Q' k' => ?_)
    refine wp_iload_n (pc := 0) dX12_coins_0 (by first | rfl | assumption | (repeat first | assumption | rfl | refine aG_n ?_ rfl rfl)) ?_
    refine wp_cS (pc := 1) dX12_coins_1 lk_12_143 rfl rfl rfl (c_X12_isHouse (fun q => absurd q c1) (fun _ => aK_i ?_))
    refine wp_if_eq (pc := 4) (tgt := 19) dX12_coins_4 rfl (fun _ => ?_) (fun q => absurd q (by decide))
    refine wp_iconst (pc := 19) (v := -1) dX12_coins_19 (by decide) ?_
    refine wp_ireturn (pc := 20) dX12_coins_20 rfl (by first | rfl | decide | assumption) ?_
    exact k' _ hI

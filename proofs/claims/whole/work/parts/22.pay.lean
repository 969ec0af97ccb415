theorem J_pay (t h : Int32) : Jnt mX11_pay mX12_pay [.int t, .int h] := by
  intro X μ Q hI k
  have hL := hI.2.2.2.2.2.2.1
  obtain ⟨⟨n, n1, n2, n3, n4, -⟩, -⟩ := id hL
  have hT := hI.2.2.2.2.2.1.1
  by_cases c1 : inT t n
  · by_cases c2 : inR h 0 9999
    · obtain ⟨q, hq, rfl⟩ := inT_of c1
      obtain ⟨⟨e0, e1, e2, e3, e4, e5⟩, v0, ⟨a, ha, ea⟩, ⟨b, hb, eb⟩, v3, -, -, -, -, v6⟩ := n4 q hq
      have fa : μ.1 (36 + q) 1 = nI a := e1.trans ea
      have fb : μ.1 (36 + q) 2 = nI b := e2.trans eb
      have ec : (nI q).toNatClampNeg = q := nI_clamp (by omega)
      obtain ⟨p, hp, fp⟩ := inR_of (n := 9999) (hI.2.1 a ha).2
      obtain ⟨s, hs, fs⟩ := inR_of (n := 9999) (hI.2.1 b hb).2
      obtain ⟨r, hr, fr⟩ := inR_of (n := 999) v3
      have gp : μ.1 (55 + 4 * a) 1 = nI p := (hI.2.1 a ha).1.trans fp
      have gs : μ.1 (55 + 4 * b) 1 = nI s := (hI.2.1 b hb).1.trans fs
      have gr : μ.1 (36 + q) 3 = nI r := e3.trans fr
      by_cases c3 : μ.1 111 q = 3
      · have c3' : μ.1 (36 + q) 0 = 3 := e0.trans c3
        refine wp_aload_n (pc := 0) dX11_pay_0 (by first | rfl | assumption | (repeat first | assumption | rfl | refine aG_n ?_ rfl rfl)) ?_
        refine wp_getR (pc := 1) dX11_pay_1 fl_11_53 (by first | rfl | assumption | exact sh_house (by omega) | exact sh_wish (by omega) | exact sh_wor (by omega) | exact sh_bar (by omega) | exact sh_term (by omega) | exact sh_sheet (by omega) | exact sh_items (by omega) | exact sh_sums (by omega)) rfl ?_
        refine wp_iload_n (pc := 4) dX11_pay_4 (by first | rfl | assumption | (repeat first | assumption | rfl | refine aG_n ?_ rfl rfl)) ?_
        refine wp_cV (pc := 5) dX11_pay_5 lk_11_303 rfl (by decide) rfl (by first | rfl | assumption | exact sh_house (by omega) | exact sh_wish (by omega) | exact sh_wor (by omega) | exact sh_bar (by omega) | exact sh_term (by omega) | exact sh_sheet (by omega) | exact sh_items (by omega) | exact sh_sums (by omega)) rfl rfl (c_X2_hasTerm n1 n2 (fun _ => aK_i ?_) (fun q => absurd c1 q))
        refine wp_if_eq (pc := 8) (tgt := 18) dX11_pay_8 rfl (fun q => absurd q (by decide)) (fun _ => ?_)
        refine wp_iload_n (pc := 11) dX11_pay_11 (by first | rfl | assumption | (repeat first | assumption | rfl | refine aG_n ?_ rfl rfl)) ?_
        refine wp_cS (pc := 12) dX11_pay_12 lk_11_294 rfl rfl rfl (c_X11_isHour (fun _ => aK_i ?_) (fun q => absurd c2 q))
        refine wp_if_ne (pc := 15) (tgt := 20) dX11_pay_15 rfl (fun _ => ?_) (fun q => absurd q (by decide))
        refine wp_aload_n (pc := 20) dX11_pay_20 (by first | rfl | assumption | (repeat first | assumption | rfl | refine aG_n ?_ rfl rfl)) ?_
        refine wp_getR (pc := 21) dX11_pay_21 fl_11_53 (by first | rfl | assumption | exact sh_house (by omega) | exact sh_wish (by omega) | exact sh_wor (by omega) | exact sh_bar (by omega) | exact sh_term (by omega) | exact sh_sheet (by omega) | exact sh_items (by omega) | exact sh_sums (by omega)) rfl ?_
        refine wp_iload_n (pc := 24) dX11_pay_24 (by first | rfl | assumption | (repeat first | assumption | rfl | refine aG_n ?_ rfl rfl)) ?_
        refine wp_cV (pc := 25) dX11_pay_25 lk_11_312 rfl (by decide) rfl (by first | rfl | assumption | exact sh_house (by omega) | exact sh_wish (by omega) | exact sh_wor (by omega) | exact sh_bar (by omega) | exact sh_term (by omega) | exact sh_sheet (by omega) | exact sh_items (by omega) | exact sh_sums (by omega)) rfl rfl ?_
        refine wp_aload_n (pc := 0) dX2_isBar_0 (by first | rfl | assumption | (repeat first | assumption | rfl | refine aG_n ?_ rfl rfl)) ?_
        refine wp_getR (pc := 1) dX2_isBar_1 fl_2_13 (by first | rfl | assumption | exact sh_house (by omega) | exact sh_wish (by omega) | exact sh_wor (by omega) | exact sh_bar (by omega) | exact sh_term (by omega) | exact sh_sheet (by omega) | exact sh_items (by omega) | exact sh_sums (by omega)) rfl ?_
        refine wp_iload_n (pc := 4) dX2_isBar_4 (by first | rfl | assumption | (repeat first | assumption | rfl | refine aG_n ?_ rfl rfl)) ?_
        refine wp_aald (pc := 5) dX2_isBar_5 (by first | rfl | assumption | exact sh_house (by omega) | exact sh_wish (by omega) | exact sh_wor (by omega) | exact sh_bar (by omega) | exact sh_term (by omega) | exact sh_sheet (by omega) | exact sh_items (by omega) | exact sh_sums (by omega)) (vp_in_nI (by omega) (by decide)) (by decide) (el_term (by omega)) ?_
        refine wp_getI (pc := 6) dX2_isBar_6 fl_2_32 (by first | rfl | assumption | exact sh_house (by omega) | exact sh_wish (by omega) | exact sh_wor (by omega) | exact sh_bar (by omega) | exact sh_term (by omega) | exact sh_sheet (by omega) | exact sh_items (by omega) | exact sh_sums (by omega)) rfl ?_
        refine wp_iconst (pc := 9) (v := 3) dX2_isBar_9 (by decide) ?_
        refine wp_icmp_ne (pc := 10) (tgt := 17) dX2_isBar_10 rfl (fun q => absurd c3' q) (fun _ => ?_)
        refine wp_iconst (pc := 13) (v := 1) dX2_isBar_13 (by decide) ?_
        refine wp_goto (pc := 14) (tgt := 18) dX2_isBar_14 rfl ?_
        refine wp_iretK (pc := 18) dX2_isBar_18 rfl (by first | rfl | decide | assumption) ?_
        refine wp_if_eq (pc := 28) (tgt := 34) dX11_pay_28 rfl (fun q => absurd q (by decide)) (fun _ => ?_)
        refine wp_bipush (pc := 31) (v := -12) dX11_pay_31 (by decide) ?_
        refine wp_ireturn (pc := 33) dX11_pay_33 rfl (by first | rfl | decide | assumption) ?_
        refine k _ _ (fun Q' k' => ?_)
        refine wp_aload_n (pc := 0) dX12_pay_0 (by first | rfl | assumption | (repeat first | assumption | rfl | refine aG_n ?_ rfl rfl)) ?_
        refine wp_iload_n (pc := 1) dX12_pay_1 (by first | rfl | assumption | (repeat first | assumption | rfl | refine aG_n ?_ rfl rfl)) ?_
        refine wp_cV (pc := 2) dX12_pay_2 lk_12_335 rfl (by decide) rfl (by first | rfl | assumption | exact sh_house (by omega) | exact sh_wish (by omega) | exact sh_wor (by omega) | exact sh_bar (by omega) | exact sh_term (by omega) | exact sh_sheet (by omega) | exact sh_items (by omega) | exact sh_sums (by omega)) rfl rfl (c_X12_isTerm n1 n3 (fun _ => aK_i ?_) (fun q => absurd c1 q))
        refine wp_if_eq (pc := 5) (tgt := 15) dX12_pay_5 rfl (fun q => absurd q (by decide)) (fun _ => ?_)
        refine wp_iload_n (pc := 8) dX12_pay_8 (by first | rfl | assumption | (repeat first | assumption | rfl | refine aG_n ?_ rfl rfl)) ?_
        refine wp_cS (pc := 9) dX12_pay_9 lk_12_326 rfl rfl rfl (c_X12_isHour (fun _ => aK_i ?_) (fun q => absurd c2 q))
        refine wp_if_ne (pc := 12) (tgt := 17) dX12_pay_12 rfl (fun _ => ?_) (fun q => absurd q (by decide))
        refine wp_aload_n (pc := 17) dX12_pay_17 (by first | rfl | assumption | (repeat first | assumption | rfl | refine aG_n ?_ rfl rfl)) ?_
        refine wp_getR (pc := 18) dX12_pay_18 fl_12_83 (by first | rfl | assumption | exact sh_house (by omega) | exact sh_wish (by omega) | exact sh_wor (by omega) | exact sh_bar (by omega) | exact sh_term (by omega) | exact sh_sheet (by omega) | exact sh_items (by omega) | exact sh_sums (by omega)) rfl ?_
        refine wp_iload_n (pc := 21) dX12_pay_21 (by first | rfl | assumption | (repeat first | assumption | rfl | refine aG_n ?_ rfl rfl)) ?_
        refine wp_iald (pc := 22) dX12_pay_22 (by first | rfl | assumption | exact sh_house (by omega) | exact sh_wish (by omega) | exact sh_wor (by omega) | exact sh_bar (by omega) | exact sh_term (by omega) | exact sh_sheet (by omega) | exact sh_items (by omega) | exact sh_sums (by omega)) (vp_in_nI (by omega) (by decide)) ?_
        refine wp_iconst (pc := 23) (v := 3) dX12_pay_23 (by decide) ?_
        refine wp_icmp_ne (pc := 24) (tgt := 30) dX12_pay_24 rfl (fun q => absurd (by rw [ec]; exact c3) q) (fun _ => ?_)
        refine wp_bipush (pc := 27) (v := -12) dX12_pay_27 (by decide) ?_
        refine wp_ireturn (pc := 29) dX12_pay_29 rfl (by first | rfl | decide | assumption) ?_
        exact k' _ hI
      · have c3' : ¬ μ.1 (36 + q) 0 = 3 := fun z => c3 (e0.symm.trans z)
        by_cases c4 : μ.1 (36 + q) 6 = -1
        · have c4' : μ.1 117 q = -4 := by
            rcases v6 with z | z
            · exact z.2
            · exact absurd (z.1.symm.trans c4) (by intro y; have := z.2.1; rw [y] at this; exact absurd this (by decide))
          by_cases c5 : p < r
          · skip
            refine wp_aload_n (pc := 0) dX11_pay_0 (by first | rfl | assumption | (repeat first | assumption | rfl | refine aG_n ?_ rfl rfl)) ?_
            refine wp_getR (pc := 1) dX11_pay_1 fl_11_53 (by first | rfl | assumption | exact sh_house (by omega) | exact sh_wish (by omega) | exact sh_wor (by omega) | exact sh_bar (by omega) | exact sh_term (by omega) | exact sh_sheet (by omega) | exact sh_items (by omega) | exact sh_sums (by omega)) rfl ?_
            refine wp_iload_n (pc := 4) dX11_pay_4 (by first | rfl | assumption | (repeat first | assumption | rfl | refine aG_n ?_ rfl rfl)) ?_
            refine wp_cV (pc := 5) dX11_pay_5 lk_11_303 rfl (by decide) rfl (by first | rfl | assumption | exact sh_house (by omega) | exact sh_wish (by omega) | exact sh_wor (by omega) | exact sh_bar (by omega) | exact sh_term (by omega) | exact sh_sheet (by omega) | exact sh_items (by omega) | exact sh_sums (by omega)) rfl rfl (c_X2_hasTerm n1 n2 (fun _ => aK_i ?_) (fun q => absurd c1 q))
            refine wp_if_eq (pc := 8) (tgt := 18) dX11_pay_8 rfl (fun q => absurd q (by decide)) (fun _ => ?_)
            refine wp_iload_n (pc := 11) dX11_pay_11 (by first | rfl | assumption | (repeat first | assumption | rfl | refine aG_n ?_ rfl rfl)) ?_
            refine wp_cS (pc := 12) dX11_pay_12 lk_11_294 rfl rfl rfl (c_X11_isHour (fun _ => aK_i ?_) (fun q => absurd c2 q))
            refine wp_if_ne (pc := 15) (tgt := 20) dX11_pay_15 rfl (fun _ => ?_) (fun q => absurd q (by decide))
            refine wp_aload_n (pc := 20) dX11_pay_20 (by first | rfl | assumption | (repeat first | assumption | rfl | refine aG_n ?_ rfl rfl)) ?_
            refine wp_getR (pc := 21) dX11_pay_21 fl_11_53 (by first | rfl | assumption | exact sh_house (by omega) | exact sh_wish (by omega) | exact sh_wor (by omega) | exact sh_bar (by omega) | exact sh_term (by omega) | exact sh_sheet (by omega) | exact sh_items (by omega) | exact sh_sums (by omega)) rfl ?_
            refine wp_iload_n (pc := 24) dX11_pay_24 (by first | rfl | assumption | (repeat first | assumption | rfl | refine aG_n ?_ rfl rfl)) ?_
            refine wp_cV (pc := 25) dX11_pay_25 lk_11_312 rfl (by decide) rfl (by first | rfl | assumption | exact sh_house (by omega) | exact sh_wish (by omega) | exact sh_wor (by omega) | exact sh_bar (by omega) | exact sh_term (by omega) | exact sh_sheet (by omega) | exact sh_items (by omega) | exact sh_sums (by omega)) rfl rfl ?_
            refine wp_aload_n (pc := 0) dX2_isBar_0 (by first | rfl | assumption | (repeat first | assumption | rfl | refine aG_n ?_ rfl rfl)) ?_
            refine wp_getR (pc := 1) dX2_isBar_1 fl_2_13 (by first | rfl | assumption | exact sh_house (by omega) | exact sh_wish (by omega) | exact sh_wor (by omega) | exact sh_bar (by omega) | exact sh_term (by omega) | exact sh_sheet (by omega) | exact sh_items (by omega) | exact sh_sums (by omega)) rfl ?_
            refine wp_iload_n (pc := 4) dX2_isBar_4 (by first | rfl | assumption | (repeat first | assumption | rfl | refine aG_n ?_ rfl rfl)) ?_
            refine wp_aald (pc := 5) dX2_isBar_5 (by first | rfl | assumption | exact sh_house (by omega) | exact sh_wish (by omega) | exact sh_wor (by omega) | exact sh_bar (by omega) | exact sh_term (by omega) | exact sh_sheet (by omega) | exact sh_items (by omega) | exact sh_sums (by omega)) (vp_in_nI (by omega) (by decide)) (by decide) (el_term (by omega)) ?_
            refine wp_getI (pc := 6) dX2_isBar_6 fl_2_32 (by first | rfl | assumption | exact sh_house (by omega) | exact sh_wish (by omega) | exact sh_wor (by omega) | exact sh_bar (by omega) | exact sh_term (by omega) | exact sh_sheet (by omega) | exact sh_items (by omega) | exact sh_sums (by omega)) rfl ?_
            refine wp_iconst (pc := 9) (v := 3) dX2_isBar_9 (by decide) ?_
            refine wp_icmp_ne (pc := 10) (tgt := 17) dX2_isBar_10 rfl (fun _ => ?_) (fun q => absurd q c3')
            refine wp_iconst (pc := 17) (v := 0) dX2_isBar_17 (by decide) ?_
            refine wp_iretK (pc := 18) dX2_isBar_18 rfl (by first | rfl | decide | assumption) ?_
            refine wp_if_eq (pc := 28) (tgt := 34) dX11_pay_28 rfl (fun _ => ?_) (fun q => absurd q (by decide))
            refine wp_aload_n (pc := 34) dX11_pay_34 (by first | rfl | assumption | (repeat first | assumption | rfl | refine aG_n ?_ rfl rfl)) ?_
            refine wp_getR (pc := 35) dX11_pay_35 fl_11_53 (by first | rfl | assumption | exact sh_house (by omega) | exact sh_wish (by omega) | exact sh_wor (by omega) | exact sh_bar (by omega) | exact sh_term (by omega) | exact sh_sheet (by omega) | exact sh_items (by omega) | exact sh_sums (by omega)) rfl ?_
            refine wp_getR (pc := 38) dX11_pay_38 fl_11_315 (by first | rfl | assumption | exact sh_house (by omega) | exact sh_wish (by omega) | exact sh_wor (by omega) | exact sh_bar (by omega) | exact sh_term (by omega) | exact sh_sheet (by omega) | exact sh_items (by omega) | exact sh_sums (by omega)) rfl ?_
            refine wp_iload_n (pc := 41) dX11_pay_41 (by first | rfl | assumption | (repeat first | assumption | rfl | refine aG_n ?_ rfl rfl)) ?_
            refine wp_aald (pc := 42) dX11_pay_42 (by first | rfl | assumption | exact sh_house (by omega) | exact sh_wish (by omega) | exact sh_wor (by omega) | exact sh_bar (by omega) | exact sh_term (by omega) | exact sh_sheet (by omega) | exact sh_items (by omega) | exact sh_sums (by omega)) (vp_in_nI (by omega) (by decide)) (by decide) (el_term (by omega)) ?_
            refine wp_astore_n (pc := 43) dX11_pay_43 (by decide) ?_
            refine wp_aload_n (pc := 44) dX11_pay_44 (by first | rfl | assumption | (repeat first | assumption | rfl | refine aG_n ?_ rfl rfl)) ?_
            refine wp_getR (pc := 45) dX11_pay_45 fl_11_11 (by first | rfl | assumption | exact sh_house (by omega) | exact sh_wish (by omega) | exact sh_wor (by omega) | exact sh_bar (by omega) | exact sh_term (by omega) | exact sh_sheet (by omega) | exact sh_items (by omega) | exact sh_sums (by omega)) rfl ?_
            refine wp_aload_n (pc := 48) dX11_pay_48 (by first | rfl | assumption | (repeat first | assumption | rfl | refine aG_n ?_ rfl rfl)) ?_
            refine wp_getI (pc := 49) dX11_pay_49 fl_11_319 (by first | rfl | assumption | exact sh_house (by omega) | exact sh_wish (by omega) | exact sh_wor (by omega) | exact sh_bar (by omega) | exact sh_term (by omega) | exact sh_sheet (by omega) | exact sh_items (by omega) | exact sh_sums (by omega)) rfl ?_
            refine wp_aald (pc := 52) dX11_pay_52 (by first | rfl | assumption | exact sh_house (by omega) | exact sh_wish (by omega) | exact sh_wor (by omega) | exact sh_bar (by omega) | exact sh_term (by omega) | exact sh_sheet (by omega) | exact sh_items (by omega) | exact sh_sums (by omega)) (by rw [fa]; exact vp_in_nI (by omega) (by decide)) (by decide) (show _ = some (55 + 4 * a) by rw [fa]; exact el_house (by omega)) ?_
            refine wp_astore (pc := 53) dX11_pay_53 (by decide) ?_
            refine wp_aload_n (pc := 55) dX11_pay_55 (by first | rfl | assumption | (repeat first | assumption | rfl | refine aG_n ?_ rfl rfl)) ?_
            refine wp_getR (pc := 56) dX11_pay_56 fl_11_11 (by first | rfl | assumption | exact sh_house (by omega) | exact sh_wish (by omega) | exact sh_wor (by omega) | exact sh_bar (by omega) | exact sh_term (by omega) | exact sh_sheet (by omega) | exact sh_items (by omega) | exact sh_sums (by omega)) rfl ?_
            refine wp_aload_n (pc := 59) dX11_pay_59 (by first | rfl | assumption | (repeat first | assumption | rfl | refine aG_n ?_ rfl rfl)) ?_
            refine wp_getI (pc := 60) dX11_pay_60 fl_11_324 (by first | rfl | assumption | exact sh_house (by omega) | exact sh_wish (by omega) | exact sh_wor (by omega) | exact sh_bar (by omega) | exact sh_term (by omega) | exact sh_sheet (by omega) | exact sh_items (by omega) | exact sh_sums (by omega)) rfl ?_
            refine wp_aald (pc := 63) dX11_pay_63 (by first | rfl | assumption | exact sh_house (by omega) | exact sh_wish (by omega) | exact sh_wor (by omega) | exact sh_bar (by omega) | exact sh_term (by omega) | exact sh_sheet (by omega) | exact sh_items (by omega) | exact sh_sums (by omega)) (by rw [fb]; exact vp_in_nI (by omega) (by decide)) (by decide) (show _ = some (55 + 4 * b) by rw [fb]; exact el_house (by omega)) ?_
            refine wp_astore (pc := 64) dX11_pay_64 (by decide) ?_
            refine wp_aload_n (pc := 66) dX11_pay_66 (by first | rfl | assumption | (repeat first | assumption | rfl | refine aG_n ?_ rfl rfl)) ?_
            refine wp_cV (pc := 67) dX11_pay_67 lk_11_327 rfl (by decide) rfl (by first | rfl | assumption | exact sh_house (by omega) | exact sh_wish (by omega) | exact sh_wor (by omega) | exact sh_bar (by omega) | exact sh_term (by omega) | exact sh_sheet (by omega) | exact sh_items (by omega) | exact sh_sums (by omega)) rfl rfl ?_
            refine wp_aload_n (pc := 0) dX9_isPaid_0 (by first | rfl | assumption | (repeat first | assumption | rfl | refine aG_n ?_ rfl rfl)) ?_
            refine wp_getI (pc := 1) dX9_isPaid_1 fl_9_9 (by first | rfl | assumption | exact sh_house (by omega) | exact sh_wish (by omega) | exact sh_wor (by omega) | exact sh_bar (by omega) | exact sh_term (by omega) | exact sh_sheet (by omega) | exact sh_items (by omega) | exact sh_sums (by omega)) rfl ?_
            refine wp_iconst (pc := 4) (v := -1) dX9_isPaid_4 (by decide) ?_
            refine wp_icmp_eq (pc := 5) (tgt := 12) dX9_isPaid_5 rfl (fun _ => ?_) (fun q => absurd c4 q)
            refine wp_iconst (pc := 12) (v := 0) dX9_isPaid_12 (by decide) ?_
            refine wp_iretK (pc := 13) dX9_isPaid_13 rfl (by first | rfl | decide | assumption) ?_
            refine wp_if_ne (pc := 70) (tgt := 111) dX11_pay_70 rfl (fun q => absurd q (by decide)) (fun _ => ?_)
            refine wp_aload (pc := 73) dX11_pay_73 (by first | rfl | assumption | (repeat first | assumption | rfl | refine aG_n ?_ rfl rfl)) ?_
            refine wp_getI (pc := 75) dX11_pay_75 fl_11_116 (by first | rfl | assumption | exact sh_house (by omega) | exact sh_wish (by omega) | exact sh_wor (by omega) | exact sh_bar (by omega) | exact sh_term (by omega) | exact sh_sheet (by omega) | exact sh_items (by omega) | exact sh_sums (by omega)) rfl ?_
            refine wp_aload_n (pc := 78) dX11_pay_78 (by first | rfl | assumption | (repeat first | assumption | rfl | refine aG_n ?_ rfl rfl)) ?_
            refine wp_getI (pc := 79) dX11_pay_79 fl_11_330 (by first | rfl | assumption | exact sh_house (by omega) | exact sh_wish (by omega) | exact sh_wor (by omega) | exact sh_bar (by omega) | exact sh_term (by omega) | exact sh_sheet (by omega) | exact sh_items (by omega) | exact sh_sums (by omega)) rfl ?_
            refine wp_icmp_lt (pc := 82) (tgt := 111) dX11_pay_82 rfl (fun _ => ?_) (fun q => absurd (by rw [gp, gr]; exact nI_lt c5 (by omega)) q)
            refine wp_bipush (pc := 111) (v := -2) dX11_pay_111 (by decide) ?_
            refine wp_ireturn (pc := 113) dX11_pay_113 rfl (by first | rfl | decide | assumption) ?_
            refine k _ _ (fun Q' k' => ?_)
            refine wp_aload_n (pc := 0) dX12_pay_0 (by first | rfl | assumption | (repeat first | assumption | rfl | refine aG_n ?_ rfl rfl)) ?_
            refine wp_iload_n (pc := 1) dX12_pay_1 (by first | rfl | assumption | (repeat first | assumption | rfl | refine aG_n ?_ rfl rfl)) ?_
            refine wp_cV (pc := 2) dX12_pay_2 lk_12_335 rfl (by decide) rfl (by first | rfl | assumption | exact sh_house (by omega) | exact sh_wish (by omega) | exact sh_wor (by omega) | exact sh_bar (by omega) | exact sh_term (by omega) | exact sh_sheet (by omega) | exact sh_items (by omega) | exact sh_sums (by omega)) rfl rfl (c_X12_isTerm n1 n3 (fun _ => aK_i ?_) (fun q => absurd c1 q))
            refine wp_if_eq (pc := 5) (tgt := 15) dX12_pay_5 rfl (fun q => absurd q (by decide)) (fun _ => ?_)
            refine wp_iload_n (pc := 8) dX12_pay_8 (by first | rfl | assumption | (repeat first | assumption | rfl | refine aG_n ?_ rfl rfl)) ?_
            refine wp_cS (pc := 9) dX12_pay_9 lk_12_326 rfl rfl rfl (c_X12_isHour (fun _ => aK_i ?_) (fun q => absurd c2 q))
            refine wp_if_ne (pc := 12) (tgt := 17) dX12_pay_12 rfl (fun _ => ?_) (fun q => absurd q (by decide))
            refine wp_aload_n (pc := 17) dX12_pay_17 (by first | rfl | assumption | (repeat first | assumption | rfl | refine aG_n ?_ rfl rfl)) ?_
            refine wp_getR (pc := 18) dX12_pay_18 fl_12_83 (by first | rfl | assumption | exact sh_house (by omega) | exact sh_wish (by omega) | exact sh_wor (by omega) | exact sh_bar (by omega) | exact sh_term (by omega) | exact sh_sheet (by omega) | exact sh_items (by omega) | exact sh_sums (by omega)) rfl ?_
            refine wp_iload_n (pc := 21) dX12_pay_21 (by first | rfl | assumption | (repeat first | assumption | rfl | refine aG_n ?_ rfl rfl)) ?_
            refine wp_iald (pc := 22) dX12_pay_22 (by first | rfl | assumption | exact sh_house (by omega) | exact sh_wish (by omega) | exact sh_wor (by omega) | exact sh_bar (by omega) | exact sh_term (by omega) | exact sh_sheet (by omega) | exact sh_items (by omega) | exact sh_sums (by omega)) (vp_in_nI (by omega) (by decide)) ?_
            refine wp_iconst (pc := 23) (v := 3) dX12_pay_23 (by decide) ?_
            refine wp_icmp_ne (pc := 24) (tgt := 30) dX12_pay_24 rfl (fun _ => ?_) (fun q => absurd q (by rw [ec]; exact c3))
            refine wp_aload_n (pc := 30) dX12_pay_30 (by first | rfl | assumption | (repeat first | assumption | rfl | refine aG_n ?_ rfl rfl)) ?_
            refine wp_getR (pc := 31) dX12_pay_31 fl_12_86 (by first | rfl | assumption | exact sh_house (by omega) | exact sh_wish (by omega) | exact sh_wor (by omega) | exact sh_bar (by omega) | exact sh_term (by omega) | exact sh_sheet (by omega) | exact sh_items (by omega) | exact sh_sums (by omega)) rfl ?_
            refine wp_iload_n (pc := 34) dX12_pay_34 (by first | rfl | assumption | (repeat first | assumption | rfl | refine aG_n ?_ rfl rfl)) ?_
            refine wp_iald (pc := 35) dX12_pay_35 (by first | rfl | assumption | exact sh_house (by omega) | exact sh_wish (by omega) | exact sh_wor (by omega) | exact sh_bar (by omega) | exact sh_term (by omega) | exact sh_sheet (by omega) | exact sh_items (by omega) | exact sh_sums (by omega)) (vp_in_nI (by omega) (by decide)) ?_
            refine wp_istore_n (pc := 36) dX12_pay_36 (by decide) ?_
            refine wp_aload_n (pc := 37) dX12_pay_37 (by first | rfl | assumption | (repeat first | assumption | rfl | refine aG_n ?_ rfl rfl)) ?_
            refine wp_getR (pc := 38) dX12_pay_38 fl_12_89 (by first | rfl | assumption | exact sh_house (by omega) | exact sh_wish (by omega) | exact sh_wor (by omega) | exact sh_bar (by omega) | exact sh_term (by omega) | exact sh_sheet (by omega) | exact sh_items (by omega) | exact sh_sums (by omega)) rfl ?_
            refine wp_iload_n (pc := 41) dX12_pay_41 (by first | rfl | assumption | (repeat first | assumption | rfl | refine aG_n ?_ rfl rfl)) ?_
            refine wp_iald (pc := 42) dX12_pay_42 (by first | rfl | assumption | exact sh_house (by omega) | exact sh_wish (by omega) | exact sh_wor (by omega) | exact sh_bar (by omega) | exact sh_term (by omega) | exact sh_sheet (by omega) | exact sh_items (by omega) | exact sh_sums (by omega)) (vp_in_nI (by omega) (by decide)) ?_
            refine wp_istore (pc := 43) dX12_pay_43 (by decide) ?_
            refine wp_aload_n (pc := 45) dX12_pay_45 (by first | rfl | assumption | (repeat first | assumption | rfl | refine aG_n ?_ rfl rfl)) ?_
            refine wp_getR (pc := 46) dX12_pay_46 fl_12_101 (by first | rfl | assumption | exact sh_house (by omega) | exact sh_wish (by omega) | exact sh_wor (by omega) | exact sh_bar (by omega) | exact sh_term (by omega) | exact sh_sheet (by omega) | exact sh_items (by omega) | exact sh_sums (by omega)) rfl ?_
            refine wp_iload_n (pc := 49) dX12_pay_49 (by first | rfl | assumption | (repeat first | assumption | rfl | refine aG_n ?_ rfl rfl)) ?_
            refine wp_iald (pc := 50) dX12_pay_50 (by first | rfl | assumption | exact sh_house (by omega) | exact sh_wish (by omega) | exact sh_wor (by omega) | exact sh_bar (by omega) | exact sh_term (by omega) | exact sh_sheet (by omega) | exact sh_items (by omega) | exact sh_sums (by omega)) (vp_in_nI (by omega) (by decide)) ?_
            refine wp_bipush (pc := 51) (v := -4) dX12_pay_51 (by decide) ?_
            refine wp_icmp_ne (pc := 53) (tgt := 98) dX12_pay_53 rfl (fun q => absurd (by rw [ec]; exact c4') q) (fun _ => ?_)
            refine wp_aload_n (pc := 56) dX12_pay_56 (by first | rfl | assumption | (repeat first | assumption | rfl | refine aG_n ?_ rfl rfl)) ?_
            refine wp_getR (pc := 57) dX12_pay_57 fl_12_13 (by first | rfl | assumption | exact sh_house (by omega) | exact sh_wish (by omega) | exact sh_wor (by omega) | exact sh_bar (by omega) | exact sh_term (by omega) | exact sh_sheet (by omega) | exact sh_items (by omega) | exact sh_sums (by omega)) rfl ?_
            refine wp_iload_n (pc := 60) dX12_pay_60 (by first | rfl | assumption | (repeat first | assumption | rfl | refine aG_n ?_ rfl rfl)) ?_
            refine wp_iald (pc := 61) dX12_pay_61 (by first | rfl | assumption | exact sh_house (by omega) | exact sh_wish (by omega) | exact sh_wor (by omega) | exact sh_bar (by omega) | exact sh_term (by omega) | exact sh_sheet (by omega) | exact sh_items (by omega) | exact sh_sums (by omega)) (by simp (disch := omega) only [nI_clamp, up2_ne, up2_p]; rw [ea]; exact vp_in_nI (by omega) (by decide)) ?_
            refine wp_aload_n (pc := 62) dX12_pay_62 (by first | rfl | assumption | (repeat first | assumption | rfl | refine aG_n ?_ rfl rfl)) ?_
            refine wp_getR (pc := 63) dX12_pay_63 fl_12_92 (by first | rfl | assumption | exact sh_house (by omega) | exact sh_wish (by omega) | exact sh_wor (by omega) | exact sh_bar (by omega) | exact sh_term (by omega) | exact sh_sheet (by omega) | exact sh_items (by omega) | exact sh_sums (by omega)) rfl ?_
            refine wp_iload_n (pc := 66) dX12_pay_66 (by first | rfl | assumption | (repeat first | assumption | rfl | refine aG_n ?_ rfl rfl)) ?_
            refine wp_iald (pc := 67) dX12_pay_67 (by first | rfl | assumption | exact sh_house (by omega) | exact sh_wish (by omega) | exact sh_wor (by omega) | exact sh_bar (by omega) | exact sh_term (by omega) | exact sh_sheet (by omega) | exact sh_items (by omega) | exact sh_sums (by omega)) (vp_in_nI (by omega) (by decide)) ?_
            refine wp_icmp_lt (pc := 68) (tgt := 98) dX12_pay_68 rfl (fun _ => ?_) (fun q => absurd (by simp (disch := omega) only [nI_clamp, ea]; rw [fp, fr]; exact nI_lt c5 (by omega)) q)
            refine wp_bipush (pc := 98) (v := -2) dX12_pay_98 (by decide) ?_
            refine wp_ireturn (pc := 100) dX12_pay_100 rfl (by first | rfl | decide | assumption) ?_
            exact k' _ hI
          · by_cases c6 : 9999 < s + r
            · skip
              refine wp_aload_n (pc := 0) dX11_pay_0 (by first | rfl | assumption | (repeat first | assumption | rfl | refine aG_n ?_ rfl rfl)) ?_
              refine wp_getR (pc := 1) dX11_pay_1 fl_11_53 (by first | rfl | assumption | exact sh_house (by omega) | exact sh_wish (by omega) | exact sh_wor (by omega) | exact sh_bar (by omega) | exact sh_term (by omega) | exact sh_sheet (by omega) | exact sh_items (by omega) | exact sh_sums (by omega)) rfl ?_
              refine wp_iload_n (pc := 4) dX11_pay_4 (by first | rfl | assumption | (repeat first | assumption | rfl | refine aG_n ?_ rfl rfl)) ?_
              refine wp_cV (pc := 5) dX11_pay_5 lk_11_303 rfl (by decide) rfl (by first | rfl | assumption | exact sh_house (by omega) | exact sh_wish (by omega) | exact sh_wor (by omega) | exact sh_bar (by omega) | exact sh_term (by omega) | exact sh_sheet (by omega) | exact sh_items (by omega) | exact sh_sums (by omega)) rfl rfl (c_X2_hasTerm n1 n2 (fun _ => aK_i ?_) (fun q => absurd c1 q))
              refine wp_if_eq (pc := 8) (tgt := 18) dX11_pay_8 rfl (fun q => absurd q (by decide)) (fun _ => ?_)
              refine wp_iload_n (pc := 11) dX11_pay_11 (by first | rfl | assumption | (repeat first | assumption | rfl | refine aG_n ?_ rfl rfl)) ?_
              refine wp_cS (pc := 12) dX11_pay_12 lk_11_294 rfl rfl rfl (c_X11_isHour (fun _ => aK_i ?_) (fun q => absurd c2 q))
              refine wp_if_ne (pc := 15) (tgt := 20) dX11_pay_15 rfl (fun _ => ?_) (fun q => absurd q (by decide))
              refine wp_aload_n (pc := 20) dX11_pay_20 (by first | rfl | assumption | (repeat first | assumption | rfl | refine aG_n ?_ rfl rfl)) ?_
              refine wp_getR (pc := 21) dX11_pay_21 fl_11_53 (by first | rfl | assumption | exact sh_house (by omega) | exact sh_wish (by omega) | exact sh_wor (by omega) | exact sh_bar (by omega) | exact sh_term (by omega) | exact sh_sheet (by omega) | exact sh_items (by omega) | exact sh_sums (by omega)) rfl ?_
              refine wp_iload_n (pc := 24) dX11_pay_24 (by first | rfl | assumption | (repeat first | assumption | rfl | refine aG_n ?_ rfl rfl)) ?_
              refine wp_cV (pc := 25) dX11_pay_25 lk_11_312 rfl (by decide) rfl (by first | rfl | assumption | exact sh_house (by omega) | exact sh_wish (by omega) | exact sh_wor (by omega) | exact sh_bar (by omega) | exact sh_term (by omega) | exact sh_sheet (by omega) | exact sh_items (by omega) | exact sh_sums (by omega)) rfl rfl ?_
              refine wp_aload_n (pc := 0) dX2_isBar_0 (by first | rfl | assumption | (repeat first | assumption | rfl | refine aG_n ?_ rfl rfl)) ?_
              refine wp_getR (pc := 1) dX2_isBar_1 fl_2_13 (by first | rfl | assumption | exact sh_house (by omega) | exact sh_wish (by omega) | exact sh_wor (by omega) | exact sh_bar (by omega) | exact sh_term (by omega) | exact sh_sheet (by omega) | exact sh_items (by omega) | exact sh_sums (by omega)) rfl ?_
              refine wp_iload_n (pc := 4) dX2_isBar_4 (by first | rfl | assumption | (repeat first | assumption | rfl | refine aG_n ?_ rfl rfl)) ?_
              refine wp_aald (pc := 5) dX2_isBar_5 (by first | rfl | assumption | exact sh_house (by omega) | exact sh_wish (by omega) | exact sh_wor (by omega) | exact sh_bar (by omega) | exact sh_term (by omega) | exact sh_sheet (by omega) | exact sh_items (by omega) | exact sh_sums (by omega)) (vp_in_nI (by omega) (by decide)) (by decide) (el_term (by omega)) ?_
              refine wp_getI (pc := 6) dX2_isBar_6 fl_2_32 (by first | rfl | assumption | exact sh_house (by omega) | exact sh_wish (by omega) | exact sh_wor (by omega) | exact sh_bar (by omega) | exact sh_term (by omega) | exact sh_sheet (by omega) | exact sh_items (by omega) | exact sh_sums (by omega)) rfl ?_
              refine wp_iconst (pc := 9) (v := 3) dX2_isBar_9 (by decide) ?_
              refine wp_icmp_ne (pc := 10) (tgt := 17) dX2_isBar_10 rfl (fun _ => ?_) (fun q => absurd q c3')
              refine wp_iconst (pc := 17) (v := 0) dX2_isBar_17 (by decide) ?_
              refine wp_iretK (pc := 18) dX2_isBar_18 rfl (by first | rfl | decide | assumption) ?_
              refine wp_if_eq (pc := 28) (tgt := 34) dX11_pay_28 rfl (fun _ => ?_) (fun q => absurd q (by decide))
              refine wp_aload_n (pc := 34) dX11_pay_34 (by first | rfl | assumption | (repeat first | assumption | rfl | refine aG_n ?_ rfl rfl)) ?_
              refine wp_getR (pc := 35) dX11_pay_35 fl_11_53 (by first | rfl | assumption | exact sh_house (by omega) | exact sh_wish (by omega) | exact sh_wor (by omega) | exact sh_bar (by omega) | exact sh_term (by omega) | exact sh_sheet (by omega) | exact sh_items (by omega) | exact sh_sums (by omega)) rfl ?_
              refine wp_getR (pc := 38) dX11_pay_38 fl_11_315 (by first | rfl | assumption | exact sh_house (by omega) | exact sh_wish (by omega) | exact sh_wor (by omega) | exact sh_bar (by omega) | exact sh_term (by omega) | exact sh_sheet (by omega) | exact sh_items (by omega) | exact sh_sums (by omega)) rfl ?_
              refine wp_iload_n (pc := 41) dX11_pay_41 (by first | rfl | assumption | (repeat first | assumption | rfl | refine aG_n ?_ rfl rfl)) ?_
              refine wp_aald (pc := 42) dX11_pay_42 (by first | rfl | assumption | exact sh_house (by omega) | exact sh_wish (by omega) | exact sh_wor (by omega) | exact sh_bar (by omega) | exact sh_term (by omega) | exact sh_sheet (by omega) | exact sh_items (by omega) | exact sh_sums (by omega)) (vp_in_nI (by omega) (by decide)) (by decide) (el_term (by omega)) ?_
              refine wp_astore_n (pc := 43) dX11_pay_43 (by decide) ?_
              refine wp_aload_n (pc := 44) dX11_pay_44 (by first | rfl | assumption | (repeat first | assumption | rfl | refine aG_n ?_ rfl rfl)) ?_
              refine wp_getR (pc := 45) dX11_pay_45 fl_11_11 (by first | rfl | assumption | exact sh_house (by omega) | exact sh_wish (by omega) | exact sh_wor (by omega) | exact sh_bar (by omega) | exact sh_term (by omega) | exact sh_sheet (by omega) | exact sh_items (by omega) | exact sh_sums (by omega)) rfl ?_
              refine wp_aload_n (pc := 48) dX11_pay_48 (by first | rfl | assumption | (repeat first | assumption | rfl | refine aG_n ?_ rfl rfl)) ?_
              refine wp_getI (pc := 49) dX11_pay_49 fl_11_319 (by first | rfl | assumption | exact sh_house (by omega) | exact sh_wish (by omega) | exact sh_wor (by omega) | exact sh_bar (by omega) | exact sh_term (by omega) | exact sh_sheet (by omega) | exact sh_items (by omega) | exact sh_sums (by omega)) rfl ?_
              refine wp_aald (pc := 52) dX11_pay_52 (by first | rfl | assumption | exact sh_house (by omega) | exact sh_wish (by omega) | exact sh_wor (by omega) | exact sh_bar (by omega) | exact sh_term (by omega) | exact sh_sheet (by omega) | exact sh_items (by omega) | exact sh_sums (by omega)) (by rw [fa]; exact vp_in_nI (by omega) (by decide)) (by decide) (show _ = some (55 + 4 * a) by rw [fa]; exact el_house (by omega)) ?_
              refine wp_astore (pc := 53) dX11_pay_53 (by decide) ?_
              refine wp_aload_n (pc := 55) dX11_pay_55 (by first | rfl | assumption | (repeat first | assumption | rfl | refine aG_n ?_ rfl rfl)) ?_
              refine wp_getR (pc := 56) dX11_pay_56 fl_11_11 (by first | rfl | assumption | exact sh_house (by omega) | exact sh_wish (by omega) | exact sh_wor (by omega) | exact sh_bar (by omega) | exact sh_term (by omega) | exact sh_sheet (by omega) | exact sh_items (by omega) | exact sh_sums (by omega)) rfl ?_
              refine wp_aload_n (pc := 59) dX11_pay_59 (by first | rfl | assumption | (repeat first | assumption | rfl | refine aG_n ?_ rfl rfl)) ?_
              refine wp_getI (pc := 60) dX11_pay_60 fl_11_324 (by first | rfl | assumption | exact sh_house (by omega) | exact sh_wish (by omega) | exact sh_wor (by omega) | exact sh_bar (by omega) | exact sh_term (by omega) | exact sh_sheet (by omega) | exact sh_items (by omega) | exact sh_sums (by omega)) rfl ?_
              refine wp_aald (pc := 63) dX11_pay_63 (by first | rfl | assumption | exact sh_house (by omega) | exact sh_wish (by omega) | exact sh_wor (by omega) | exact sh_bar (by omega) | exact sh_term (by omega) | exact sh_sheet (by omega) | exact sh_items (by omega) | exact sh_sums (by omega)) (by rw [fb]; exact vp_in_nI (by omega) (by decide)) (by decide) (show _ = some (55 + 4 * b) by rw [fb]; exact el_house (by omega)) ?_
              refine wp_astore (pc := 64) dX11_pay_64 (by decide) ?_
              refine wp_aload_n (pc := 66) dX11_pay_66 (by first | rfl | assumption | (repeat first | assumption | rfl | refine aG_n ?_ rfl rfl)) ?_
              refine wp_cV (pc := 67) dX11_pay_67 lk_11_327 rfl (by decide) rfl (by first | rfl | assumption | exact sh_house (by omega) | exact sh_wish (by omega) | exact sh_wor (by omega) | exact sh_bar (by omega) | exact sh_term (by omega) | exact sh_sheet (by omega) | exact sh_items (by omega) | exact sh_sums (by omega)) rfl rfl ?_
              refine wp_aload_n (pc := 0) dX9_isPaid_0 (by first | rfl | assumption | (repeat first | assumption | rfl | refine aG_n ?_ rfl rfl)) ?_
              refine wp_getI (pc := 1) dX9_isPaid_1 fl_9_9 (by first | rfl | assumption | exact sh_house (by omega) | exact sh_wish (by omega) | exact sh_wor (by omega) | exact sh_bar (by omega) | exact sh_term (by omega) | exact sh_sheet (by omega) | exact sh_items (by omega) | exact sh_sums (by omega)) rfl ?_
              refine wp_iconst (pc := 4) (v := -1) dX9_isPaid_4 (by decide) ?_
              refine wp_icmp_eq (pc := 5) (tgt := 12) dX9_isPaid_5 rfl (fun _ => ?_) (fun q => absurd c4 q)
              refine wp_iconst (pc := 12) (v := 0) dX9_isPaid_12 (by decide) ?_
              refine wp_iretK (pc := 13) dX9_isPaid_13 rfl (by first | rfl | decide | assumption) ?_
              refine wp_if_ne (pc := 70) (tgt := 111) dX11_pay_70 rfl (fun q => absurd q (by decide)) (fun _ => ?_)
              refine wp_aload (pc := 73) dX11_pay_73 (by first | rfl | assumption | (repeat first | assumption | rfl | refine aG_n ?_ rfl rfl)) ?_
              refine wp_getI (pc := 75) dX11_pay_75 fl_11_116 (by first | rfl | assumption | exact sh_house (by omega) | exact sh_wish (by omega) | exact sh_wor (by omega) | exact sh_bar (by omega) | exact sh_term (by omega) | exact sh_sheet (by omega) | exact sh_items (by omega) | exact sh_sums (by omega)) rfl ?_
              refine wp_aload_n (pc := 78) dX11_pay_78 (by first | rfl | assumption | (repeat first | assumption | rfl | refine aG_n ?_ rfl rfl)) ?_
              refine wp_getI (pc := 79) dX11_pay_79 fl_11_330 (by first | rfl | assumption | exact sh_house (by omega) | exact sh_wish (by omega) | exact sh_wor (by omega) | exact sh_bar (by omega) | exact sh_term (by omega) | exact sh_sheet (by omega) | exact sh_items (by omega) | exact sh_sums (by omega)) rfl ?_
              refine wp_icmp_lt (pc := 82) (tgt := 111) dX11_pay_82 rfl (fun q => absurd q (by rw [gp, gr]; exact nI_nlt (by omega) (by omega))) (fun _ => ?_)
              refine wp_aload (pc := 85) dX11_pay_85 (by first | rfl | assumption | (repeat first | assumption | rfl | refine aG_n ?_ rfl rfl)) ?_
              refine wp_getI (pc := 87) dX11_pay_87 fl_11_116 (by first | rfl | assumption | exact sh_house (by omega) | exact sh_wish (by omega) | exact sh_wor (by omega) | exact sh_bar (by omega) | exact sh_term (by omega) | exact sh_sheet (by omega) | exact sh_items (by omega) | exact sh_sums (by omega)) rfl ?_
              refine wp_aload_n (pc := 90) dX11_pay_90 (by first | rfl | assumption | (repeat first | assumption | rfl | refine aG_n ?_ rfl rfl)) ?_
              refine wp_getI (pc := 91) dX11_pay_91 fl_11_330 (by first | rfl | assumption | exact sh_house (by omega) | exact sh_wish (by omega) | exact sh_wor (by omega) | exact sh_bar (by omega) | exact sh_term (by omega) | exact sh_sheet (by omega) | exact sh_items (by omega) | exact sh_sums (by omega)) rfl ?_
              refine wp_iadd (pc := 94) dX11_pay_94 ?_
              refine wp_sipush (pc := 95) (v := 9999) dX11_pay_95 (by decide) ?_
              refine wp_icmp_gt (pc := 98) (tgt := 111) dX11_pay_98 rfl (fun _ => ?_) (fun q => absurd (by rw [gs, gr, nI_add]; exact nI_lt (a := 9999) (b := s + r) (by omega) (by omega)) q)
              refine wp_bipush (pc := 111) (v := -2) dX11_pay_111 (by decide) ?_
              refine wp_ireturn (pc := 113) dX11_pay_113 rfl (by first | rfl | decide | assumption) ?_
              refine k _ _ (fun Q' k' => ?_)
              refine wp_aload_n (pc := 0) dX12_pay_0 (by first | rfl | assumption | (repeat first | assumption | rfl | refine aG_n ?_ rfl rfl)) ?_
              refine wp_iload_n (pc := 1) dX12_pay_1 (by first | rfl | assumption | (repeat first | assumption | rfl | refine aG_n ?_ rfl rfl)) ?_
              refine wp_cV (pc := 2) dX12_pay_2 lk_12_335 rfl (by decide) rfl (by first | rfl | assumption | exact sh_house (by omega) | exact sh_wish (by omega) | exact sh_wor (by omega) | exact sh_bar (by omega) | exact sh_term (by omega) | exact sh_sheet (by omega) | exact sh_items (by omega) | exact sh_sums (by omega)) rfl rfl (c_X12_isTerm n1 n3 (fun _ => aK_i ?_) (fun q => absurd c1 q))
              refine wp_if_eq (pc := 5) (tgt := 15) dX12_pay_5 rfl (fun q => absurd q (by decide)) (fun _ => ?_)
              refine wp_iload_n (pc := 8) dX12_pay_8 (by first | rfl | assumption | (repeat first | assumption | rfl | refine aG_n ?_ rfl rfl)) ?_
              refine wp_cS (pc := 9) dX12_pay_9 lk_12_326 rfl rfl rfl (c_X12_isHour (fun _ => aK_i ?_) (fun q => absurd c2 q))
              refine wp_if_ne (pc := 12) (tgt := 17) dX12_pay_12 rfl (fun _ => ?_) (fun q => absurd q (by decide))
              refine wp_aload_n (pc := 17) dX12_pay_17 (by first | rfl | assumption | (repeat first | assumption | rfl | refine aG_n ?_ rfl rfl)) ?_
              refine wp_getR (pc := 18) dX12_pay_18 fl_12_83 (by first | rfl | assumption | exact sh_house (by omega) | exact sh_wish (by omega) | exact sh_wor (by omega) | exact sh_bar (by omega) | exact sh_term (by omega) | exact sh_sheet (by omega) | exact sh_items (by omega) | exact sh_sums (by omega)) rfl ?_
              refine wp_iload_n (pc := 21) dX12_pay_21 (by first | rfl | assumption | (repeat first | assumption | rfl | refine aG_n ?_ rfl rfl)) ?_
              refine wp_iald (pc := 22) dX12_pay_22 (by first | rfl | assumption | exact sh_house (by omega) | exact sh_wish (by omega) | exact sh_wor (by omega) | exact sh_bar (by omega) | exact sh_term (by omega) | exact sh_sheet (by omega) | exact sh_items (by omega) | exact sh_sums (by omega)) (vp_in_nI (by omega) (by decide)) ?_
              refine wp_iconst (pc := 23) (v := 3) dX12_pay_23 (by decide) ?_
              refine wp_icmp_ne (pc := 24) (tgt := 30) dX12_pay_24 rfl (fun _ => ?_) (fun q => absurd q (by rw [ec]; exact c3))
              refine wp_aload_n (pc := 30) dX12_pay_30 (by first | rfl | assumption | (repeat first | assumption | rfl | refine aG_n ?_ rfl rfl)) ?_
              refine wp_getR (pc := 31) dX12_pay_31 fl_12_86 (by first | rfl | assumption | exact sh_house (by omega) | exact sh_wish (by omega) | exact sh_wor (by omega) | exact sh_bar (by omega) | exact sh_term (by omega) | exact sh_sheet (by omega) | exact sh_items (by omega) | exact sh_sums (by omega)) rfl ?_
              refine wp_iload_n (pc := 34) dX12_pay_34 (by first | rfl | assumption | (repeat first | assumption | rfl | refine aG_n ?_ rfl rfl)) ?_
              refine wp_iald (pc := 35) dX12_pay_35 (by first | rfl | assumption | exact sh_house (by omega) | exact sh_wish (by omega) | exact sh_wor (by omega) | exact sh_bar (by omega) | exact sh_term (by omega) | exact sh_sheet (by omega) | exact sh_items (by omega) | exact sh_sums (by omega)) (vp_in_nI (by omega) (by decide)) ?_
              refine wp_istore_n (pc := 36) dX12_pay_36 (by decide) ?_
              refine wp_aload_n (pc := 37) dX12_pay_37 (by first | rfl | assumption | (repeat first | assumption | rfl | refine aG_n ?_ rfl rfl)) ?_
              refine wp_getR (pc := 38) dX12_pay_38 fl_12_89 (by first | rfl | assumption | exact sh_house (by omega) | exact sh_wish (by omega) | exact sh_wor (by omega) | exact sh_bar (by omega) | exact sh_term (by omega) | exact sh_sheet (by omega) | exact sh_items (by omega) | exact sh_sums (by omega)) rfl ?_
              refine wp_iload_n (pc := 41) dX12_pay_41 (by first | rfl | assumption | (repeat first | assumption | rfl | refine aG_n ?_ rfl rfl)) ?_
              refine wp_iald (pc := 42) dX12_pay_42 (by first | rfl | assumption | exact sh_house (by omega) | exact sh_wish (by omega) | exact sh_wor (by omega) | exact sh_bar (by omega) | exact sh_term (by omega) | exact sh_sheet (by omega) | exact sh_items (by omega) | exact sh_sums (by omega)) (vp_in_nI (by omega) (by decide)) ?_
              refine wp_istore (pc := 43) dX12_pay_43 (by decide) ?_
              refine wp_aload_n (pc := 45) dX12_pay_45 (by first | rfl | assumption | (repeat first | assumption | rfl | refine aG_n ?_ rfl rfl)) ?_
              refine wp_getR (pc := 46) dX12_pay_46 fl_12_101 (by first | rfl | assumption | exact sh_house (by omega) | exact sh_wish (by omega) | exact sh_wor (by omega) | exact sh_bar (by omega) | exact sh_term (by omega) | exact sh_sheet (by omega) | exact sh_items (by omega) | exact sh_sums (by omega)) rfl ?_
              refine wp_iload_n (pc := 49) dX12_pay_49 (by first | rfl | assumption | (repeat first | assumption | rfl | refine aG_n ?_ rfl rfl)) ?_
              refine wp_iald (pc := 50) dX12_pay_50 (by first | rfl | assumption | exact sh_house (by omega) | exact sh_wish (by omega) | exact sh_wor (by omega) | exact sh_bar (by omega) | exact sh_term (by omega) | exact sh_sheet (by omega) | exact sh_items (by omega) | exact sh_sums (by omega)) (vp_in_nI (by omega) (by decide)) ?_
              refine wp_bipush (pc := 51) (v := -4) dX12_pay_51 (by decide) ?_
              refine wp_icmp_ne (pc := 53) (tgt := 98) dX12_pay_53 rfl (fun q => absurd (by rw [ec]; exact c4') q) (fun _ => ?_)
              refine wp_aload_n (pc := 56) dX12_pay_56 (by first | rfl | assumption | (repeat first | assumption | rfl | refine aG_n ?_ rfl rfl)) ?_
              refine wp_getR (pc := 57) dX12_pay_57 fl_12_13 (by first | rfl | assumption | exact sh_house (by omega) | exact sh_wish (by omega) | exact sh_wor (by omega) | exact sh_bar (by omega) | exact sh_term (by omega) | exact sh_sheet (by omega) | exact sh_items (by omega) | exact sh_sums (by omega)) rfl ?_
              refine wp_iload_n (pc := 60) dX12_pay_60 (by first | rfl | assumption | (repeat first | assumption | rfl | refine aG_n ?_ rfl rfl)) ?_
              refine wp_iald (pc := 61) dX12_pay_61 (by first | rfl | assumption | exact sh_house (by omega) | exact sh_wish (by omega) | exact sh_wor (by omega) | exact sh_bar (by omega) | exact sh_term (by omega) | exact sh_sheet (by omega) | exact sh_items (by omega) | exact sh_sums (by omega)) (by simp (disch := omega) only [nI_clamp, up2_ne, up2_p]; rw [ea]; exact vp_in_nI (by omega) (by decide)) ?_
              refine wp_aload_n (pc := 62) dX12_pay_62 (by first | rfl | assumption | (repeat first | assumption | rfl | refine aG_n ?_ rfl rfl)) ?_
              refine wp_getR (pc := 63) dX12_pay_63 fl_12_92 (by first | rfl | assumption | exact sh_house (by omega) | exact sh_wish (by omega) | exact sh_wor (by omega) | exact sh_bar (by omega) | exact sh_term (by omega) | exact sh_sheet (by omega) | exact sh_items (by omega) | exact sh_sums (by omega)) rfl ?_
              refine wp_iload_n (pc := 66) dX12_pay_66 (by first | rfl | assumption | (repeat first | assumption | rfl | refine aG_n ?_ rfl rfl)) ?_
              refine wp_iald (pc := 67) dX12_pay_67 (by first | rfl | assumption | exact sh_house (by omega) | exact sh_wish (by omega) | exact sh_wor (by omega) | exact sh_bar (by omega) | exact sh_term (by omega) | exact sh_sheet (by omega) | exact sh_items (by omega) | exact sh_sums (by omega)) (vp_in_nI (by omega) (by decide)) ?_
              refine wp_icmp_lt (pc := 68) (tgt := 98) dX12_pay_68 rfl (fun q => absurd q (by simp (disch := omega) only [nI_clamp, ea]; rw [fp, fr]; exact nI_nlt (by omega) (by omega))) (fun _ => ?_)
              refine wp_aload_n (pc := 71) dX12_pay_71 (by first | rfl | assumption | (repeat first | assumption | rfl | refine aG_n ?_ rfl rfl)) ?_
              refine wp_getR (pc := 72) dX12_pay_72 fl_12_13 (by first | rfl | assumption | exact sh_house (by omega) | exact sh_wish (by omega) | exact sh_wor (by omega) | exact sh_bar (by omega) | exact sh_term (by omega) | exact sh_sheet (by omega) | exact sh_items (by omega) | exact sh_sums (by omega)) rfl ?_
              refine wp_iload (pc := 75) dX12_pay_75 (by first | rfl | assumption | (repeat first | assumption | rfl | refine aG_n ?_ rfl rfl)) ?_
              refine wp_iald (pc := 77) dX12_pay_77 (by first | rfl | assumption | exact sh_house (by omega) | exact sh_wish (by omega) | exact sh_wor (by omega) | exact sh_bar (by omega) | exact sh_term (by omega) | exact sh_sheet (by omega) | exact sh_items (by omega) | exact sh_sums (by omega)) (by simp (disch := omega) only [nI_clamp, up2_ne, up2_p]; rw [eb]; exact vp_in_nI (by omega) (by decide)) ?_
              refine wp_aload_n (pc := 78) dX12_pay_78 (by first | rfl | assumption | (repeat first | assumption | rfl | refine aG_n ?_ rfl rfl)) ?_
              refine wp_getR (pc := 79) dX12_pay_79 fl_12_92 (by first | rfl | assumption | exact sh_house (by omega) | exact sh_wish (by omega) | exact sh_wor (by omega) | exact sh_bar (by omega) | exact sh_term (by omega) | exact sh_sheet (by omega) | exact sh_items (by omega) | exact sh_sums (by omega)) rfl ?_
              refine wp_iload_n (pc := 82) dX12_pay_82 (by first | rfl | assumption | (repeat first | assumption | rfl | refine aG_n ?_ rfl rfl)) ?_
              refine wp_iald (pc := 83) dX12_pay_83 (by first | rfl | assumption | exact sh_house (by omega) | exact sh_wish (by omega) | exact sh_wor (by omega) | exact sh_bar (by omega) | exact sh_term (by omega) | exact sh_sheet (by omega) | exact sh_items (by omega) | exact sh_sums (by omega)) (vp_in_nI (by omega) (by decide)) ?_
              refine wp_iadd (pc := 84) dX12_pay_84 ?_
              refine wp_sipush (pc := 85) (v := 9999) dX12_pay_85 (by decide) ?_
              refine wp_icmp_gt (pc := 88) (tgt := 98) dX12_pay_88 rfl (fun _ => ?_) (fun q => absurd (by simp (disch := omega) only [nI_clamp, eb]; rw [fs, fr, nI_add]; exact nI_lt (a := 9999) (b := s + r) (by omega) (by omega)) q)
              refine wp_bipush (pc := 98) (v := -2) dX12_pay_98 (by decide) ?_
              refine wp_ireturn (pc := 100) dX12_pay_100 rfl (by first | rfl | decide | assumption) ?_
              exact k' _ hI
            · by_cases c7 : μ.1 73 0 = 1
              · skip
                refine wp_aload_n (pc := 0) dX11_pay_0 (by first | rfl | assumption | (repeat first | assumption | rfl | refine aG_n ?_ rfl rfl)) ?_
                refine wp_getR (pc := 1) dX11_pay_1 fl_11_53 (by first | rfl | assumption | exact sh_house (by omega) | exact sh_wish (by omega) | exact sh_wor (by omega) | exact sh_bar (by omega) | exact sh_term (by omega) | exact sh_sheet (by omega) | exact sh_items (by omega) | exact sh_sums (by omega)) rfl ?_
                refine wp_iload_n (pc := 4) dX11_pay_4 (by first | rfl | assumption | (repeat first | assumption | rfl | refine aG_n ?_ rfl rfl)) ?_
                refine wp_cV (pc := 5) dX11_pay_5 lk_11_303 rfl (by decide) rfl (by first | rfl | assumption | exact sh_house (by omega) | exact sh_wish (by omega) | exact sh_wor (by omega) | exact sh_bar (by omega) | exact sh_term (by omega) | exact sh_sheet (by omega) | exact sh_items (by omega) | exact sh_sums (by omega)) rfl rfl (c_X2_hasTerm n1 n2 (fun _ => aK_i ?_) (fun q => absurd c1 q))
                refine wp_if_eq (pc := 8) (tgt := 18) dX11_pay_8 rfl (fun q => absurd q (by decide)) (fun _ => ?_)
                refine wp_iload_n (pc := 11) dX11_pay_11 (by first | rfl | assumption | (repeat first | assumption | rfl | refine aG_n ?_ rfl rfl)) ?_
                refine wp_cS (pc := 12) dX11_pay_12 lk_11_294 rfl rfl rfl (c_X11_isHour (fun _ => aK_i ?_) (fun q => absurd c2 q))
                refine wp_if_ne (pc := 15) (tgt := 20) dX11_pay_15 rfl (fun _ => ?_) (fun q => absurd q (by decide))
                refine wp_aload_n (pc := 20) dX11_pay_20 (by first | rfl | assumption | (repeat first | assumption | rfl | refine aG_n ?_ rfl rfl)) ?_
                refine wp_getR (pc := 21) dX11_pay_21 fl_11_53 (by first | rfl | assumption | exact sh_house (by omega) | exact sh_wish (by omega) | exact sh_wor (by omega) | exact sh_bar (by omega) | exact sh_term (by omega) | exact sh_sheet (by omega) | exact sh_items (by omega) | exact sh_sums (by omega)) rfl ?_
                refine wp_iload_n (pc := 24) dX11_pay_24 (by first | rfl | assumption | (repeat first | assumption | rfl | refine aG_n ?_ rfl rfl)) ?_
                refine wp_cV (pc := 25) dX11_pay_25 lk_11_312 rfl (by decide) rfl (by first | rfl | assumption | exact sh_house (by omega) | exact sh_wish (by omega) | exact sh_wor (by omega) | exact sh_bar (by omega) | exact sh_term (by omega) | exact sh_sheet (by omega) | exact sh_items (by omega) | exact sh_sums (by omega)) rfl rfl ?_
                refine wp_aload_n (pc := 0) dX2_isBar_0 (by first | rfl | assumption | (repeat first | assumption | rfl | refine aG_n ?_ rfl rfl)) ?_
                refine wp_getR (pc := 1) dX2_isBar_1 fl_2_13 (by first | rfl | assumption | exact sh_house (by omega) | exact sh_wish (by omega) | exact sh_wor (by omega) | exact sh_bar (by omega) | exact sh_term (by omega) | exact sh_sheet (by omega) | exact sh_items (by omega) | exact sh_sums (by omega)) rfl ?_
                refine wp_iload_n (pc := 4) dX2_isBar_4 (by first | rfl | assumption | (repeat first | assumption | rfl | refine aG_n ?_ rfl rfl)) ?_
                refine wp_aald (pc := 5) dX2_isBar_5 (by first | rfl | assumption | exact sh_house (by omega) | exact sh_wish (by omega) | exact sh_wor (by omega) | exact sh_bar (by omega) | exact sh_term (by omega) | exact sh_sheet (by omega) | exact sh_items (by omega) | exact sh_sums (by omega)) (vp_in_nI (by omega) (by decide)) (by decide) (el_term (by omega)) ?_
                refine wp_getI (pc := 6) dX2_isBar_6 fl_2_32 (by first | rfl | assumption | exact sh_house (by omega) | exact sh_wish (by omega) | exact sh_wor (by omega) | exact sh_bar (by omega) | exact sh_term (by omega) | exact sh_sheet (by omega) | exact sh_items (by omega) | exact sh_sums (by omega)) rfl ?_
                refine wp_iconst (pc := 9) (v := 3) dX2_isBar_9 (by decide) ?_
                refine wp_icmp_ne (pc := 10) (tgt := 17) dX2_isBar_10 rfl (fun _ => ?_) (fun q => absurd q c3')
                refine wp_iconst (pc := 17) (v := 0) dX2_isBar_17 (by decide) ?_
                refine wp_iretK (pc := 18) dX2_isBar_18 rfl (by first | rfl | decide | assumption) ?_
                refine wp_if_eq (pc := 28) (tgt := 34) dX11_pay_28 rfl (fun _ => ?_) (fun q => absurd q (by decide))
                refine wp_aload_n (pc := 34) dX11_pay_34 (by first | rfl | assumption | (repeat first | assumption | rfl | refine aG_n ?_ rfl rfl)) ?_
                refine wp_getR (pc := 35) dX11_pay_35 fl_11_53 (by first | rfl | assumption | exact sh_house (by omega) | exact sh_wish (by omega) | exact sh_wor (by omega) | exact sh_bar (by omega) | exact sh_term (by omega) | exact sh_sheet (by omega) | exact sh_items (by omega) | exact sh_sums (by omega)) rfl ?_
                refine wp_getR (pc := 38) dX11_pay_38 fl_11_315 (by first | rfl | assumption | exact sh_house (by omega) | exact sh_wish (by omega) | exact sh_wor (by omega) | exact sh_bar (by omega) | exact sh_term (by omega) | exact sh_sheet (by omega) | exact sh_items (by omega) | exact sh_sums (by omega)) rfl ?_
                refine wp_iload_n (pc := 41) dX11_pay_41 (by first | rfl | assumption | (repeat first | assumption | rfl | refine aG_n ?_ rfl rfl)) ?_
                refine wp_aald (pc := 42) dX11_pay_42 (by first | rfl | assumption | exact sh_house (by omega) | exact sh_wish (by omega) | exact sh_wor (by omega) | exact sh_bar (by omega) | exact sh_term (by omega) | exact sh_sheet (by omega) | exact sh_items (by omega) | exact sh_sums (by omega)) (vp_in_nI (by omega) (by decide)) (by decide) (el_term (by omega)) ?_
                refine wp_astore_n (pc := 43) dX11_pay_43 (by decide) ?_
                refine wp_aload_n (pc := 44) dX11_pay_44 (by first | rfl | assumption | (repeat first | assumption | rfl | refine aG_n ?_ rfl rfl)) ?_
                refine wp_getR (pc := 45) dX11_pay_45 fl_11_11 (by first | rfl | assumption | exact sh_house (by omega) | exact sh_wish (by omega) | exact sh_wor (by omega) | exact sh_bar (by omega) | exact sh_term (by omega) | exact sh_sheet (by omega) | exact sh_items (by omega) | exact sh_sums (by omega)) rfl ?_
                refine wp_aload_n (pc := 48) dX11_pay_48 (by first | rfl | assumption | (repeat first | assumption | rfl | refine aG_n ?_ rfl rfl)) ?_
                refine wp_getI (pc := 49) dX11_pay_49 fl_11_319 (by first | rfl | assumption | exact sh_house (by omega) | exact sh_wish (by omega) | exact sh_wor (by omega) | exact sh_bar (by omega) | exact sh_term (by omega) | exact sh_sheet (by omega) | exact sh_items (by omega) | exact sh_sums (by omega)) rfl ?_
                refine wp_aald (pc := 52) dX11_pay_52 (by first | rfl | assumption | exact sh_house (by omega) | exact sh_wish (by omega) | exact sh_wor (by omega) | exact sh_bar (by omega) | exact sh_term (by omega) | exact sh_sheet (by omega) | exact sh_items (by omega) | exact sh_sums (by omega)) (by rw [fa]; exact vp_in_nI (by omega) (by decide)) (by decide) (show _ = some (55 + 4 * a) by rw [fa]; exact el_house (by omega)) ?_
                refine wp_astore (pc := 53) dX11_pay_53 (by decide) ?_
                refine wp_aload_n (pc := 55) dX11_pay_55 (by first | rfl | assumption | (repeat first | assumption | rfl | refine aG_n ?_ rfl rfl)) ?_
                refine wp_getR (pc := 56) dX11_pay_56 fl_11_11 (by first | rfl | assumption | exact sh_house (by omega) | exact sh_wish (by omega) | exact sh_wor (by omega) | exact sh_bar (by omega) | exact sh_term (by omega) | exact sh_sheet (by omega) | exact sh_items (by omega) | exact sh_sums (by omega)) rfl ?_
                refine wp_aload_n (pc := 59) dX11_pay_59 (by first | rfl | assumption | (repeat first | assumption | rfl | refine aG_n ?_ rfl rfl)) ?_
                refine wp_getI (pc := 60) dX11_pay_60 fl_11_324 (by first | rfl | assumption | exact sh_house (by omega) | exact sh_wish (by omega) | exact sh_wor (by omega) | exact sh_bar (by omega) | exact sh_term (by omega) | exact sh_sheet (by omega) | exact sh_items (by omega) | exact sh_sums (by omega)) rfl ?_
                refine wp_aald (pc := 63) dX11_pay_63 (by first | rfl | assumption | exact sh_house (by omega) | exact sh_wish (by omega) | exact sh_wor (by omega) | exact sh_bar (by omega) | exact sh_term (by omega) | exact sh_sheet (by omega) | exact sh_items (by omega) | exact sh_sums (by omega)) (by rw [fb]; exact vp_in_nI (by omega) (by decide)) (by decide) (show _ = some (55 + 4 * b) by rw [fb]; exact el_house (by omega)) ?_
                refine wp_astore (pc := 64) dX11_pay_64 (by decide) ?_
                refine wp_aload_n (pc := 66) dX11_pay_66 (by first | rfl | assumption | (repeat first | assumption | rfl | refine aG_n ?_ rfl rfl)) ?_
                refine wp_cV (pc := 67) dX11_pay_67 lk_11_327 rfl (by decide) rfl (by first | rfl | assumption | exact sh_house (by omega) | exact sh_wish (by omega) | exact sh_wor (by omega) | exact sh_bar (by omega) | exact sh_term (by omega) | exact sh_sheet (by omega) | exact sh_items (by omega) | exact sh_sums (by omega)) rfl rfl ?_
                refine wp_aload_n (pc := 0) dX9_isPaid_0 (by first | rfl | assumption | (repeat first | assumption | rfl | refine aG_n ?_ rfl rfl)) ?_
                refine wp_getI (pc := 1) dX9_isPaid_1 fl_9_9 (by first | rfl | assumption | exact sh_house (by omega) | exact sh_wish (by omega) | exact sh_wor (by omega) | exact sh_bar (by omega) | exact sh_term (by omega) | exact sh_sheet (by omega) | exact sh_items (by omega) | exact sh_sums (by omega)) rfl ?_
                refine wp_iconst (pc := 4) (v := -1) dX9_isPaid_4 (by decide) ?_
                refine wp_icmp_eq (pc := 5) (tgt := 12) dX9_isPaid_5 rfl (fun _ => ?_) (fun q => absurd c4 q)
                refine wp_iconst (pc := 12) (v := 0) dX9_isPaid_12 (by decide) ?_
                refine wp_iretK (pc := 13) dX9_isPaid_13 rfl (by first | rfl | decide | assumption) ?_
                refine wp_if_ne (pc := 70) (tgt := 111) dX11_pay_70 rfl (fun q => absurd q (by decide)) (fun _ => ?_)
                refine wp_aload (pc := 73) dX11_pay_73 (by first | rfl | assumption | (repeat first | assumption | rfl | refine aG_n ?_ rfl rfl)) ?_
                refine wp_getI (pc := 75) dX11_pay_75 fl_11_116 (by first | rfl | assumption | exact sh_house (by omega) | exact sh_wish (by omega) | exact sh_wor (by omega) | exact sh_bar (by omega) | exact sh_term (by omega) | exact sh_sheet (by omega) | exact sh_items (by omega) | exact sh_sums (by omega)) rfl ?_
                refine wp_aload_n (pc := 78) dX11_pay_78 (by first | rfl | assumption | (repeat first | assumption | rfl | refine aG_n ?_ rfl rfl)) ?_
                refine wp_getI (pc := 79) dX11_pay_79 fl_11_330 (by first | rfl | assumption | exact sh_house (by omega) | exact sh_wish (by omega) | exact sh_wor (by omega) | exact sh_bar (by omega) | exact sh_term (by omega) | exact sh_sheet (by omega) | exact sh_items (by omega) | exact sh_sums (by omega)) rfl ?_
                refine wp_icmp_lt (pc := 82) (tgt := 111) dX11_pay_82 rfl (fun q => absurd q (by rw [gp, gr]; exact nI_nlt (by omega) (by omega))) (fun _ => ?_)
                refine wp_aload (pc := 85) dX11_pay_85 (by first | rfl | assumption | (repeat first | assumption | rfl | refine aG_n ?_ rfl rfl)) ?_
                refine wp_getI (pc := 87) dX11_pay_87 fl_11_116 (by first | rfl | assumption | exact sh_house (by omega) | exact sh_wish (by omega) | exact sh_wor (by omega) | exact sh_bar (by omega) | exact sh_term (by omega) | exact sh_sheet (by omega) | exact sh_items (by omega) | exact sh_sums (by omega)) rfl ?_
                refine wp_aload_n (pc := 90) dX11_pay_90 (by first | rfl | assumption | (repeat first | assumption | rfl | refine aG_n ?_ rfl rfl)) ?_
                refine wp_getI (pc := 91) dX11_pay_91 fl_11_330 (by first | rfl | assumption | exact sh_house (by omega) | exact sh_wish (by omega) | exact sh_wor (by omega) | exact sh_bar (by omega) | exact sh_term (by omega) | exact sh_sheet (by omega) | exact sh_items (by omega) | exact sh_sums (by omega)) rfl ?_
                refine wp_iadd (pc := 94) dX11_pay_94 ?_
                refine wp_sipush (pc := 95) (v := 9999) dX11_pay_95 (by decide) ?_
                refine wp_icmp_gt (pc := 98) (tgt := 111) dX11_pay_98 rfl (fun q => absurd q (by rw [gs, gr, nI_add]; exact nI_nlt (a := 9999) (b := s + r) (by omega) (by omega))) (fun _ => ?_)
                refine wp_aload_n (pc := 101) dX11_pay_101 (by first | rfl | assumption | (repeat first | assumption | rfl | refine aG_n ?_ rfl rfl)) ?_
                refine wp_getR (pc := 102) dX11_pay_102 fl_11_92 (by first | rfl | assumption | exact sh_house (by omega) | exact sh_wish (by omega) | exact sh_wor (by omega) | exact sh_bar (by omega) | exact sh_term (by omega) | exact sh_sheet (by omega) | exact sh_items (by omega) | exact sh_sums (by omega)) rfl ?_
                refine wp_cV (pc := 105) dX11_pay_105 lk_11_104 rfl (by decide) rfl (by first | rfl | assumption | exact sh_house (by omega) | exact sh_wish (by omega) | exact sh_wor (by omega) | exact sh_bar (by omega) | exact sh_term (by omega) | exact sh_sheet (by omega) | exact sh_items (by omega) | exact sh_sums (by omega)) rfl rfl (c_X7_isOpen (fun _ => aK_i ?_) (fun q => absurd c7 q))
                refine wp_if_eq (pc := 108) (tgt := 114) dX11_pay_108 rfl (fun q => absurd q (by decide)) (fun _ => ?_)
                refine wp_bipush (pc := 111) (v := -2) dX11_pay_111 (by decide) ?_
                refine wp_ireturn (pc := 113) dX11_pay_113 rfl (by first | rfl | decide | assumption) ?_
                refine k _ _ (fun Q' k' => ?_)
                refine wp_aload_n (pc := 0) dX12_pay_0 (by first | rfl | assumption | (repeat first | assumption | rfl | refine aG_n ?_ rfl rfl)) ?_
                refine wp_iload_n (pc := 1) dX12_pay_1 (by first | rfl | assumption | (repeat first | assumption | rfl | refine aG_n ?_ rfl rfl)) ?_
                refine wp_cV (pc := 2) dX12_pay_2 lk_12_335 rfl (by decide) rfl (by first | rfl | assumption | exact sh_house (by omega) | exact sh_wish (by omega) | exact sh_wor (by omega) | exact sh_bar (by omega) | exact sh_term (by omega) | exact sh_sheet (by omega) | exact sh_items (by omega) | exact sh_sums (by omega)) rfl rfl (c_X12_isTerm n1 n3 (fun _ => aK_i ?_) (fun q => absurd c1 q))
                refine wp_if_eq (pc := 5) (tgt := 15) dX12_pay_5 rfl (fun q => absurd q (by decide)) (fun _ => ?_)
                refine wp_iload_n (pc := 8) dX12_pay_8 (by first | rfl | assumption | (repeat first | assumption | rfl | refine aG_n ?_ rfl rfl)) ?_
                refine wp_cS (pc := 9) dX12_pay_9 lk_12_326 rfl rfl rfl (c_X12_isHour (fun _ => aK_i ?_) (fun q => absurd c2 q))
                refine wp_if_ne (pc := 12) (tgt := 17) dX12_pay_12 rfl (fun _ => ?_) (fun q => absurd q (by decide))
                refine wp_aload_n (pc := 17) dX12_pay_17 (by first | rfl | assumption | (repeat first | assumption | rfl | refine aG_n ?_ rfl rfl)) ?_
                refine wp_getR (pc := 18) dX12_pay_18 fl_12_83 (by first | rfl | assumption | exact sh_house (by omega) | exact sh_wish (by omega) | exact sh_wor (by omega) | exact sh_bar (by omega) | exact sh_term (by omega) | exact sh_sheet (by omega) | exact sh_items (by omega) | exact sh_sums (by omega)) rfl ?_
                refine wp_iload_n (pc := 21) dX12_pay_21 (by first | rfl | assumption | (repeat first | assumption | rfl | refine aG_n ?_ rfl rfl)) ?_
                refine wp_iald (pc := 22) dX12_pay_22 (by first | rfl | assumption | exact sh_house (by omega) | exact sh_wish (by omega) | exact sh_wor (by omega) | exact sh_bar (by omega) | exact sh_term (by omega) | exact sh_sheet (by omega) | exact sh_items (by omega) | exact sh_sums (by omega)) (vp_in_nI (by omega) (by decide)) ?_
                refine wp_iconst (pc := 23) (v := 3) dX12_pay_23 (by decide) ?_
                refine wp_icmp_ne (pc := 24) (tgt := 30) dX12_pay_24 rfl (fun _ => ?_) (fun q => absurd q (by rw [ec]; exact c3))
                refine wp_aload_n (pc := 30) dX12_pay_30 (by first | rfl | assumption | (repeat first | assumption | rfl | refine aG_n ?_ rfl rfl)) ?_
                refine wp_getR (pc := 31) dX12_pay_31 fl_12_86 (by first | rfl | assumption | exact sh_house (by omega) | exact sh_wish (by omega) | exact sh_wor (by omega) | exact sh_bar (by omega) | exact sh_term (by omega) | exact sh_sheet (by omega) | exact sh_items (by omega) | exact sh_sums (by omega)) rfl ?_
                refine wp_iload_n (pc := 34) dX12_pay_34 (by first | rfl | assumption | (repeat first | assumption | rfl | refine aG_n ?_ rfl rfl)) ?_
                refine wp_iald (pc := 35) dX12_pay_35 (by first | rfl | assumption | exact sh_house (by omega) | exact sh_wish (by omega) | exact sh_wor (by omega) | exact sh_bar (by omega) | exact sh_term (by omega) | exact sh_sheet (by omega) | exact sh_items (by omega) | exact sh_sums (by omega)) (vp_in_nI (by omega) (by decide)) ?_
                refine wp_istore_n (pc := 36) dX12_pay_36 (by decide) ?_
                refine wp_aload_n (pc := 37) dX12_pay_37 (by first | rfl | assumption | (repeat first | assumption | rfl | refine aG_n ?_ rfl rfl)) ?_
                refine wp_getR (pc := 38) dX12_pay_38 fl_12_89 (by first | rfl | assumption | exact sh_house (by omega) | exact sh_wish (by omega) | exact sh_wor (by omega) | exact sh_bar (by omega) | exact sh_term (by omega) | exact sh_sheet (by omega) | exact sh_items (by omega) | exact sh_sums (by omega)) rfl ?_
                refine wp_iload_n (pc := 41) dX12_pay_41 (by first | rfl | assumption | (repeat first | assumption | rfl | refine aG_n ?_ rfl rfl)) ?_
                refine wp_iald (pc := 42) dX12_pay_42 (by first | rfl | assumption | exact sh_house (by omega) | exact sh_wish (by omega) | exact sh_wor (by omega) | exact sh_bar (by omega) | exact sh_term (by omega) | exact sh_sheet (by omega) | exact sh_items (by omega) | exact sh_sums (by omega)) (vp_in_nI (by omega) (by decide)) ?_
                refine wp_istore (pc := 43) dX12_pay_43 (by decide) ?_
                refine wp_aload_n (pc := 45) dX12_pay_45 (by first | rfl | assumption | (repeat first | assumption | rfl | refine aG_n ?_ rfl rfl)) ?_
                refine wp_getR (pc := 46) dX12_pay_46 fl_12_101 (by first | rfl | assumption | exact sh_house (by omega) | exact sh_wish (by omega) | exact sh_wor (by omega) | exact sh_bar (by omega) | exact sh_term (by omega) | exact sh_sheet (by omega) | exact sh_items (by omega) | exact sh_sums (by omega)) rfl ?_
                refine wp_iload_n (pc := 49) dX12_pay_49 (by first | rfl | assumption | (repeat first | assumption | rfl | refine aG_n ?_ rfl rfl)) ?_
                refine wp_iald (pc := 50) dX12_pay_50 (by first | rfl | assumption | exact sh_house (by omega) | exact sh_wish (by omega) | exact sh_wor (by omega) | exact sh_bar (by omega) | exact sh_term (by omega) | exact sh_sheet (by omega) | exact sh_items (by omega) | exact sh_sums (by omega)) (vp_in_nI (by omega) (by decide)) ?_
                refine wp_bipush (pc := 51) (v := -4) dX12_pay_51 (by decide) ?_
                refine wp_icmp_ne (pc := 53) (tgt := 98) dX12_pay_53 rfl (fun q => absurd (by rw [ec]; exact c4') q) (fun _ => ?_)
                refine wp_aload_n (pc := 56) dX12_pay_56 (by first | rfl | assumption | (repeat first | assumption | rfl | refine aG_n ?_ rfl rfl)) ?_
                refine wp_getR (pc := 57) dX12_pay_57 fl_12_13 (by first | rfl | assumption | exact sh_house (by omega) | exact sh_wish (by omega) | exact sh_wor (by omega) | exact sh_bar (by omega) | exact sh_term (by omega) | exact sh_sheet (by omega) | exact sh_items (by omega) | exact sh_sums (by omega)) rfl ?_
                refine wp_iload_n (pc := 60) dX12_pay_60 (by first | rfl | assumption | (repeat first | assumption | rfl | refine aG_n ?_ rfl rfl)) ?_
                refine wp_iald (pc := 61) dX12_pay_61 (by first | rfl | assumption | exact sh_house (by omega) | exact sh_wish (by omega) | exact sh_wor (by omega) | exact sh_bar (by omega) | exact sh_term (by omega) | exact sh_sheet (by omega) | exact sh_items (by omega) | exact sh_sums (by omega)) (by simp (disch := omega) only [nI_clamp, up2_ne, up2_p]; rw [ea]; exact vp_in_nI (by omega) (by decide)) ?_
                refine wp_aload_n (pc := 62) dX12_pay_62 (by first | rfl | assumption | (repeat first | assumption | rfl | refine aG_n ?_ rfl rfl)) ?_
                refine wp_getR (pc := 63) dX12_pay_63 fl_12_92 (by first | rfl | assumption | exact sh_house (by omega) | exact sh_wish (by omega) | exact sh_wor (by omega) | exact sh_bar (by omega) | exact sh_term (by omega) | exact sh_sheet (by omega) | exact sh_items (by omega) | exact sh_sums (by omega)) rfl ?_
                refine wp_iload_n (pc := 66) dX12_pay_66 (by first | rfl | assumption | (repeat first | assumption | rfl | refine aG_n ?_ rfl rfl)) ?_
                refine wp_iald (pc := 67) dX12_pay_67 (by first | rfl | assumption | exact sh_house (by omega) | exact sh_wish (by omega) | exact sh_wor (by omega) | exact sh_bar (by omega) | exact sh_term (by omega) | exact sh_sheet (by omega) | exact sh_items (by omega) | exact sh_sums (by omega)) (vp_in_nI (by omega) (by decide)) ?_
                refine wp_icmp_lt (pc := 68) (tgt := 98) dX12_pay_68 rfl (fun q => absurd q (by simp (disch := omega) only [nI_clamp, ea]; rw [fp, fr]; exact nI_nlt (by omega) (by omega))) (fun _ => ?_)
                refine wp_aload_n (pc := 71) dX12_pay_71 (by first | rfl | assumption | (repeat first | assumption | rfl | refine aG_n ?_ rfl rfl)) ?_
                refine wp_getR (pc := 72) dX12_pay_72 fl_12_13 (by first | rfl | assumption | exact sh_house (by omega) | exact sh_wish (by omega) | exact sh_wor (by omega) | exact sh_bar (by omega) | exact sh_term (by omega) | exact sh_sheet (by omega) | exact sh_items (by omega) | exact sh_sums (by omega)) rfl ?_
                refine wp_iload (pc := 75) dX12_pay_75 (by first | rfl | assumption | (repeat first | assumption | rfl | refine aG_n ?_ rfl rfl)) ?_
                refine wp_iald (pc := 77) dX12_pay_77 (by first | rfl | assumption | exact sh_house (by omega) | exact sh_wish (by omega) | exact sh_wor (by omega) | exact sh_bar (by omega) | exact sh_term (by omega) | exact sh_sheet (by omega) | exact sh_items (by omega) | exact sh_sums (by omega)) (by simp (disch := omega) only [nI_clamp, up2_ne, up2_p]; rw [eb]; exact vp_in_nI (by omega) (by decide)) ?_
                refine wp_aload_n (pc := 78) dX12_pay_78 (by first | rfl | assumption | (repeat first | assumption | rfl | refine aG_n ?_ rfl rfl)) ?_
                refine wp_getR (pc := 79) dX12_pay_79 fl_12_92 (by first | rfl | assumption | exact sh_house (by omega) | exact sh_wish (by omega) | exact sh_wor (by omega) | exact sh_bar (by omega) | exact sh_term (by omega) | exact sh_sheet (by omega) | exact sh_items (by omega) | exact sh_sums (by omega)) rfl ?_
                refine wp_iload_n (pc := 82) dX12_pay_82 (by first | rfl | assumption | (repeat first | assumption | rfl | refine aG_n ?_ rfl rfl)) ?_
                refine wp_iald (pc := 83) dX12_pay_83 (by first | rfl | assumption | exact sh_house (by omega) | exact sh_wish (by omega) | exact sh_wor (by omega) | exact sh_bar (by omega) | exact sh_term (by omega) | exact sh_sheet (by omega) | exact sh_items (by omega) | exact sh_sums (by omega)) (vp_in_nI (by omega) (by decide)) ?_
                refine wp_iadd (pc := 84) dX12_pay_84 ?_
                refine wp_sipush (pc := 85) (v := 9999) dX12_pay_85 (by decide) ?_
                refine wp_icmp_gt (pc := 88) (tgt := 98) dX12_pay_88 rfl (fun q => absurd q (by simp (disch := omega) only [nI_clamp, eb]; rw [fs, fr, nI_add]; exact nI_nlt (a := 9999) (b := s + r) (by omega) (by omega))) (fun _ => ?_)
                refine wp_aload_n (pc := 91) dX12_pay_91 (by first | rfl | assumption | (repeat first | assumption | rfl | refine aG_n ?_ rfl rfl)) ?_
                refine wp_cV (pc := 92) dX12_pay_92 lk_12_147 rfl (by decide) rfl (by first | rfl | assumption | exact sh_house (by omega) | exact sh_wish (by omega) | exact sh_wor (by omega) | exact sh_bar (by omega) | exact sh_term (by omega) | exact sh_sheet (by omega) | exact sh_items (by omega) | exact sh_sums (by omega)) rfl rfl (c_X12_isTalking (fun _ => aK_i ?_) (fun q => absurd (hT ▸ c7) q))
                refine wp_if_eq (pc := 95) (tgt := 101) dX12_pay_95 rfl (fun q => absurd q (by decide)) (fun _ => ?_)
                refine wp_bipush (pc := 98) (v := -2) dX12_pay_98 (by decide) ?_
                refine wp_ireturn (pc := 100) dX12_pay_100 rfl (by first | rfl | decide | assumption) ?_
                exact k' _ hI
              · have c8 : ¬ μ.1 86 15 = 1 := fun z => c7 (hT.trans z)
                refine wp_aload_n (pc := 0) dX11_pay_0 (by first | rfl | assumption | (repeat first | assumption | rfl | refine aG_n ?_ rfl rfl)) ?_
                refine wp_getR (pc := 1) dX11_pay_1 fl_11_53 (by first | rfl | assumption | exact sh_house (by omega) | exact sh_wish (by omega) | exact sh_wor (by omega) | exact sh_bar (by omega) | exact sh_term (by omega) | exact sh_sheet (by omega) | exact sh_items (by omega) | exact sh_sums (by omega)) rfl ?_
                refine wp_iload_n (pc := 4) dX11_pay_4 (by first | rfl | assumption | (repeat first | assumption | rfl | refine aG_n ?_ rfl rfl)) ?_
                refine wp_cV (pc := 5) dX11_pay_5 lk_11_303 rfl (by decide) rfl (by first | rfl | assumption | exact sh_house (by omega) | exact sh_wish (by omega) | exact sh_wor (by omega) | exact sh_bar (by omega) | exact sh_term (by omega) | exact sh_sheet (by omega) | exact sh_items (by omega) | exact sh_sums (by omega)) rfl rfl (c_X2_hasTerm n1 n2 (fun _ => aK_i ?_) (fun q => absurd c1 q))
                refine wp_if_eq (pc := 8) (tgt := 18) dX11_pay_8 rfl (fun q => absurd q (by decide)) (fun _ => ?_)
                refine wp_iload_n (pc := 11) dX11_pay_11 (by first | rfl | assumption | (repeat first | assumption | rfl | refine aG_n ?_ rfl rfl)) ?_
                refine wp_cS (pc := 12) dX11_pay_12 lk_11_294 rfl rfl rfl (c_X11_isHour (fun _ => aK_i ?_) (fun q => absurd c2 q))
                refine wp_if_ne (pc := 15) (tgt := 20) dX11_pay_15 rfl (fun _ => ?_) (fun q => absurd q (by decide))
                refine wp_aload_n (pc := 20) dX11_pay_20 (by first | rfl | assumption | (repeat first | assumption | rfl | refine aG_n ?_ rfl rfl)) ?_
                refine wp_getR (pc := 21) dX11_pay_21 fl_11_53 (by first | rfl | assumption | exact sh_house (by omega) | exact sh_wish (by omega) | exact sh_wor (by omega) | exact sh_bar (by omega) | exact sh_term (by omega) | exact sh_sheet (by omega) | exact sh_items (by omega) | exact sh_sums (by omega)) rfl ?_
                refine wp_iload_n (pc := 24) dX11_pay_24 (by first | rfl | assumption | (repeat first | assumption | rfl | refine aG_n ?_ rfl rfl)) ?_
                refine wp_cV (pc := 25) dX11_pay_25 lk_11_312 rfl (by decide) rfl (by first | rfl | assumption | exact sh_house (by omega) | exact sh_wish (by omega) | exact sh_wor (by omega) | exact sh_bar (by omega) | exact sh_term (by omega) | exact sh_sheet (by omega) | exact sh_items (by omega) | exact sh_sums (by omega)) rfl rfl ?_
                refine wp_aload_n (pc := 0) dX2_isBar_0 (by first | rfl | assumption | (repeat first | assumption | rfl | refine aG_n ?_ rfl rfl)) ?_
                refine wp_getR (pc := 1) dX2_isBar_1 fl_2_13 (by first | rfl | assumption | exact sh_house (by omega) | exact sh_wish (by omega) | exact sh_wor (by omega) | exact sh_bar (by omega) | exact sh_term (by omega) | exact sh_sheet (by omega) | exact sh_items (by omega) | exact sh_sums (by omega)) rfl ?_
                refine wp_iload_n (pc := 4) dX2_isBar_4 (by first | rfl | assumption | (repeat first | assumption | rfl | refine aG_n ?_ rfl rfl)) ?_
                refine wp_aald (pc := 5) dX2_isBar_5 (by first | rfl | assumption | exact sh_house (by omega) | exact sh_wish (by omega) | exact sh_wor (by omega) | exact sh_bar (by omega) | exact sh_term (by omega) | exact sh_sheet (by omega) | exact sh_items (by omega) | exact sh_sums (by omega)) (vp_in_nI (by omega) (by decide)) (by decide) (el_term (by omega)) ?_
                refine wp_getI (pc := 6) dX2_isBar_6 fl_2_32 (by first | rfl | assumption | exact sh_house (by omega) | exact sh_wish (by omega) | exact sh_wor (by omega) | exact sh_bar (by omega) | exact sh_term (by omega) | exact sh_sheet (by omega) | exact sh_items (by omega) | exact sh_sums (by omega)) rfl ?_
                refine wp_iconst (pc := 9) (v := 3) dX2_isBar_9 (by decide) ?_
                refine wp_icmp_ne (pc := 10) (tgt := 17) dX2_isBar_10 rfl (fun _ => ?_) (fun q => absurd q c3')
                refine wp_iconst (pc := 17) (v := 0) dX2_isBar_17 (by decide) ?_
                refine wp_iretK (pc := 18) dX2_isBar_18 rfl (by first | rfl | decide | assumption) ?_
                refine wp_if_eq (pc := 28) (tgt := 34) dX11_pay_28 rfl (fun _ => ?_) (fun q => absurd q (by decide))
                refine wp_aload_n (pc := 34) dX11_pay_34 (by first | rfl | assumption | (repeat first | assumption | rfl | refine aG_n ?_ rfl rfl)) ?_
                refine wp_getR (pc := 35) dX11_pay_35 fl_11_53 (by first | rfl | assumption | exact sh_house (by omega) | exact sh_wish (by omega) | exact sh_wor (by omega) | exact sh_bar (by omega) | exact sh_term (by omega) | exact sh_sheet (by omega) | exact sh_items (by omega) | exact sh_sums (by omega)) rfl ?_
                refine wp_getR (pc := 38) dX11_pay_38 fl_11_315 (by first | rfl | assumption | exact sh_house (by omega) | exact sh_wish (by omega) | exact sh_wor (by omega) | exact sh_bar (by omega) | exact sh_term (by omega) | exact sh_sheet (by omega) | exact sh_items (by omega) | exact sh_sums (by omega)) rfl ?_
                refine wp_iload_n (pc := 41) dX11_pay_41 (by first | rfl | assumption | (repeat first | assumption | rfl | refine aG_n ?_ rfl rfl)) ?_
                refine wp_aald (pc := 42) dX11_pay_42 (by first | rfl | assumption | exact sh_house (by omega) | exact sh_wish (by omega) | exact sh_wor (by omega) | exact sh_bar (by omega) | exact sh_term (by omega) | exact sh_sheet (by omega) | exact sh_items (by omega) | exact sh_sums (by omega)) (vp_in_nI (by omega) (by decide)) (by decide) (el_term (by omega)) ?_
                refine wp_astore_n (pc := 43) dX11_pay_43 (by decide) ?_
                refine wp_aload_n (pc := 44) dX11_pay_44 (by first | rfl | assumption | (repeat first | assumption | rfl | refine aG_n ?_ rfl rfl)) ?_
                refine wp_getR (pc := 45) dX11_pay_45 fl_11_11 (by first | rfl | assumption | exact sh_house (by omega) | exact sh_wish (by omega) | exact sh_wor (by omega) | exact sh_bar (by omega) | exact sh_term (by omega) | exact sh_sheet (by omega) | exact sh_items (by omega) | exact sh_sums (by omega)) rfl ?_
                refine wp_aload_n (pc := 48) dX11_pay_48 (by first | rfl | assumption | (repeat first | assumption | rfl | refine aG_n ?_ rfl rfl)) ?_
                refine wp_getI (pc := 49) dX11_pay_49 fl_11_319 (by first | rfl | assumption | exact sh_house (by omega) | exact sh_wish (by omega) | exact sh_wor (by omega) | exact sh_bar (by omega) | exact sh_term (by omega) | exact sh_sheet (by omega) | exact sh_items (by omega) | exact sh_sums (by omega)) rfl ?_
                refine wp_aald (pc := 52) dX11_pay_52 (by first | rfl | assumption | exact sh_house (by omega) | exact sh_wish (by omega) | exact sh_wor (by omega) | exact sh_bar (by omega) | exact sh_term (by omega) | exact sh_sheet (by omega) | exact sh_items (by omega) | exact sh_sums (by omega)) (by rw [fa]; exact vp_in_nI (by omega) (by decide)) (by decide) (show _ = some (55 + 4 * a) by rw [fa]; exact el_house (by omega)) ?_
                refine wp_astore (pc := 53) dX11_pay_53 (by decide) ?_
                refine wp_aload_n (pc := 55) dX11_pay_55 (by first | rfl | assumption | (repeat first | assumption | rfl | refine aG_n ?_ rfl rfl)) ?_
                refine wp_getR (pc := 56) dX11_pay_56 fl_11_11 (by first | rfl | assumption | exact sh_house (by omega) | exact sh_wish (by omega) | exact sh_wor (by omega) | exact sh_bar (by omega) | exact sh_term (by omega) | exact sh_sheet (by omega) | exact sh_items (by omega) | exact sh_sums (by omega)) rfl ?_
                refine wp_aload_n (pc := 59) dX11_pay_59 (by first | rfl | assumption | (repeat first | assumption | rfl | refine aG_n ?_ rfl rfl)) ?_
                refine wp_getI (pc := 60) dX11_pay_60 fl_11_324 (by first | rfl | assumption | exact sh_house (by omega) | exact sh_wish (by omega) | exact sh_wor (by omega) | exact sh_bar (by omega) | exact sh_term (by omega) | exact sh_sheet (by omega) | exact sh_items (by omega) | exact sh_sums (by omega)) rfl ?_
                refine wp_aald (pc := 63) dX11_pay_63 (by first | rfl | assumption | exact sh_house (by omega) | exact sh_wish (by omega) | exact sh_wor (by omega) | exact sh_bar (by omega) | exact sh_term (by omega) | exact sh_sheet (by omega) | exact sh_items (by omega) | exact sh_sums (by omega)) (by rw [fb]; exact vp_in_nI (by omega) (by decide)) (by decide) (show _ = some (55 + 4 * b) by rw [fb]; exact el_house (by omega)) ?_
                refine wp_astore (pc := 64) dX11_pay_64 (by decide) ?_
                refine wp_aload_n (pc := 66) dX11_pay_66 (by first | rfl | assumption | (repeat first | assumption | rfl | refine aG_n ?_ rfl rfl)) ?_
                refine wp_cV (pc := 67) dX11_pay_67 lk_11_327 rfl (by decide) rfl (by first | rfl | assumption | exact sh_house (by omega) | exact sh_wish (by omega) | exact sh_wor (by omega) | exact sh_bar (by omega) | exact sh_term (by omega) | exact sh_sheet (by omega) | exact sh_items (by omega) | exact sh_sums (by omega)) rfl rfl ?_
                refine wp_aload_n (pc := 0) dX9_isPaid_0 (by first | rfl | assumption | (repeat first | assumption | rfl | refine aG_n ?_ rfl rfl)) ?_
                refine wp_getI (pc := 1) dX9_isPaid_1 fl_9_9 (by first | rfl | assumption | exact sh_house (by omega) | exact sh_wish (by omega) | exact sh_wor (by omega) | exact sh_bar (by omega) | exact sh_term (by omega) | exact sh_sheet (by omega) | exact sh_items (by omega) | exact sh_sums (by omega)) rfl ?_
                refine wp_iconst (pc := 4) (v := -1) dX9_isPaid_4 (by decide) ?_
                refine wp_icmp_eq (pc := 5) (tgt := 12) dX9_isPaid_5 rfl (fun _ => ?_) (fun q => absurd c4 q)
                refine wp_iconst (pc := 12) (v := 0) dX9_isPaid_12 (by decide) ?_
                refine wp_iretK (pc := 13) dX9_isPaid_13 rfl (by first | rfl | decide | assumption) ?_
                refine wp_if_ne (pc := 70) (tgt := 111) dX11_pay_70 rfl (fun q => absurd q (by decide)) (fun _ => ?_)
                refine wp_aload (pc := 73) dX11_pay_73 (by first | rfl | assumption | (repeat first | assumption | rfl | refine aG_n ?_ rfl rfl)) ?_
                refine wp_getI (pc := 75) dX11_pay_75 fl_11_116 (by first | rfl | assumption | exact sh_house (by omega) | exact sh_wish (by omega) | exact sh_wor (by omega) | exact sh_bar (by omega) | exact sh_term (by omega) | exact sh_sheet (by omega) | exact sh_items (by omega) | exact sh_sums (by omega)) rfl ?_
                refine wp_aload_n (pc := 78) dX11_pay_78 (by first | rfl | assumption | (repeat first | assumption | rfl | refine aG_n ?_ rfl rfl)) ?_
                refine wp_getI (pc := 79) dX11_pay_79 fl_11_330 (by first | rfl | assumption | exact sh_house (by omega) | exact sh_wish (by omega) | exact sh_wor (by omega) | exact sh_bar (by omega) | exact sh_term (by omega) | exact sh_sheet (by omega) | exact sh_items (by omega) | exact sh_sums (by omega)) rfl ?_
                refine wp_icmp_lt (pc := 82) (tgt := 111) dX11_pay_82 rfl (fun q => absurd q (by rw [gp, gr]; exact nI_nlt (by omega) (by omega))) (fun _ => ?_)
                refine wp_aload (pc := 85) dX11_pay_85 (by first | rfl | assumption | (repeat first | assumption | rfl | refine aG_n ?_ rfl rfl)) ?_
                refine wp_getI (pc := 87) dX11_pay_87 fl_11_116 (by first | rfl | assumption | exact sh_house (by omega) | exact sh_wish (by omega) | exact sh_wor (by omega) | exact sh_bar (by omega) | exact sh_term (by omega) | exact sh_sheet (by omega) | exact sh_items (by omega) | exact sh_sums (by omega)) rfl ?_
                refine wp_aload_n (pc := 90) dX11_pay_90 (by first | rfl | assumption | (repeat first | assumption | rfl | refine aG_n ?_ rfl rfl)) ?_
                refine wp_getI (pc := 91) dX11_pay_91 fl_11_330 (by first | rfl | assumption | exact sh_house (by omega) | exact sh_wish (by omega) | exact sh_wor (by omega) | exact sh_bar (by omega) | exact sh_term (by omega) | exact sh_sheet (by omega) | exact sh_items (by omega) | exact sh_sums (by omega)) rfl ?_
                refine wp_iadd (pc := 94) dX11_pay_94 ?_
                refine wp_sipush (pc := 95) (v := 9999) dX11_pay_95 (by decide) ?_
                refine wp_icmp_gt (pc := 98) (tgt := 111) dX11_pay_98 rfl (fun q => absurd q (by rw [gs, gr, nI_add]; exact nI_nlt (a := 9999) (b := s + r) (by omega) (by omega))) (fun _ => ?_)
                refine wp_aload_n (pc := 101) dX11_pay_101 (by first | rfl | assumption | (repeat first | assumption | rfl | refine aG_n ?_ rfl rfl)) ?_
                refine wp_getR (pc := 102) dX11_pay_102 fl_11_92 (by first | rfl | assumption | exact sh_house (by omega) | exact sh_wish (by omega) | exact sh_wor (by omega) | exact sh_bar (by omega) | exact sh_term (by omega) | exact sh_sheet (by omega) | exact sh_items (by omega) | exact sh_sums (by omega)) rfl ?_
                refine wp_cV (pc := 105) dX11_pay_105 lk_11_104 rfl (by decide) rfl (by first | rfl | assumption | exact sh_house (by omega) | exact sh_wish (by omega) | exact sh_wor (by omega) | exact sh_bar (by omega) | exact sh_term (by omega) | exact sh_sheet (by omega) | exact sh_items (by omega) | exact sh_sums (by omega)) rfl rfl (c_X7_isOpen (fun q => absurd q c7) (fun _ => aK_i ?_))
                refine wp_if_eq (pc := 108) (tgt := 114) dX11_pay_108 rfl (fun _ => ?_) (fun q => absurd q (by decide))
                refine wp_aload (pc := 114) dX11_pay_114 (by first | rfl | assumption | (repeat first | assumption | rfl | refine aG_n ?_ rfl rfl)) ?_
                refine wp_dupr (pc := 116) dX11_pay_116 ?_
                refine wp_getI (pc := 117) dX11_pay_117 fl_11_116 (by first | rfl | assumption | exact sh_house (by omega) | exact sh_wish (by omega) | exact sh_wor (by omega) | exact sh_bar (by omega) | exact sh_term (by omega) | exact sh_sheet (by omega) | exact sh_items (by omega) | exact sh_sums (by omega)) rfl ?_
                refine wp_aload_n (pc := 120) dX11_pay_120 (by first | rfl | assumption | (repeat first | assumption | rfl | refine aG_n ?_ rfl rfl)) ?_
                refine wp_getI (pc := 121) dX11_pay_121 fl_11_330 (by first | rfl | assumption | exact sh_house (by omega) | exact sh_wish (by omega) | exact sh_wor (by omega) | exact sh_bar (by omega) | exact sh_term (by omega) | exact sh_sheet (by omega) | exact sh_items (by omega) | exact sh_sums (by omega)) rfl ?_
                refine wp_isub (pc := 124) dX11_pay_124 ?_
                refine wp_putI (pc := 125) dX11_pay_125 fl_11_116 (by first | rfl | assumption | exact sh_house (by omega) | exact sh_wish (by omega) | exact sh_wor (by omega) | exact sh_bar (by omega) | exact sh_term (by omega) | exact sh_sheet (by omega) | exact sh_items (by omega) | exact sh_sums (by omega)) rfl rfl rfl ?_
                refine wp_aload (pc := 128) dX11_pay_128 (by first | rfl | assumption | (repeat first | assumption | rfl | refine aG_n ?_ rfl rfl)) ?_
                refine wp_dupr (pc := 130) dX11_pay_130 ?_
                refine wp_getI (pc := 131) dX11_pay_131 fl_11_116 (by first | rfl | assumption | exact sh_house (by omega) | exact sh_wish (by omega) | exact sh_wor (by omega) | exact sh_bar (by omega) | exact sh_term (by omega) | exact sh_sheet (by omega) | exact sh_items (by omega) | exact sh_sums (by omega)) rfl ?_
                refine wp_aload_n (pc := 134) dX11_pay_134 (by first | rfl | assumption | (repeat first | assumption | rfl | refine aG_n ?_ rfl rfl)) ?_
                refine wp_getI (pc := 135) dX11_pay_135 fl_11_330 (by first | rfl | assumption | exact sh_house (by omega) | exact sh_wish (by omega) | exact sh_wor (by omega) | exact sh_bar (by omega) | exact sh_term (by omega) | exact sh_sheet (by omega) | exact sh_items (by omega) | exact sh_sums (by omega)) rfl ?_
                refine wp_iadd (pc := 138) dX11_pay_138 ?_
                refine wp_putI (pc := 139) dX11_pay_139 fl_11_116 (by first | rfl | assumption | exact sh_house (by omega) | exact sh_wish (by omega) | exact sh_wor (by omega) | exact sh_bar (by omega) | exact sh_term (by omega) | exact sh_sheet (by omega) | exact sh_items (by omega) | exact sh_sums (by omega)) rfl rfl rfl ?_
                refine wp_aload_n (pc := 142) dX11_pay_142 (by first | rfl | assumption | (repeat first | assumption | rfl | refine aG_n ?_ rfl rfl)) ?_
                refine wp_iload_n (pc := 143) dX11_pay_143 (by first | rfl | assumption | (repeat first | assumption | rfl | refine aG_n ?_ rfl rfl)) ?_
                refine wp_putI (pc := 144) dX11_pay_144 fl_11_331 (by first | rfl | assumption | exact sh_house (by omega) | exact sh_wish (by omega) | exact sh_wor (by omega) | exact sh_bar (by omega) | exact sh_term (by omega) | exact sh_sheet (by omega) | exact sh_items (by omega) | exact sh_sums (by omega)) rfl rfl rfl ?_
                refine wp_aload (pc := 147) dX11_pay_147 (by first | rfl | assumption | (repeat first | assumption | rfl | refine aG_n ?_ rfl rfl)) ?_
                refine wp_getI (pc := 149) dX11_pay_149 fl_11_116 (by first | rfl | assumption | exact sh_house (by omega) | exact sh_wish (by omega) | exact sh_wor (by omega) | exact sh_bar (by omega) | exact sh_term (by omega) | exact sh_sheet (by omega) | exact sh_items (by omega) | exact sh_sums (by omega)) rfl ?_
                refine wp_ireturn (pc := 152) dX11_pay_152 rfl (by first | rfl | decide | assumption) ?_
                refine k _ _ (fun Q' k' => ?_)
                have eM : up2 (up2 (up2 μ.1 (55 + 4 * a) 1 (μ.1 (55 + 4 * a) 1 - μ.1 (36 + q) 3)) (55 + 4 * b) 1 (up2 μ.1 (55 + 4 * a) 1 (μ.1 (55 + 4 * a) 1 - μ.1 (36 + q) 3) (55 + 4 * b) 1 + up2 μ.1 (55 + 4 * a) 1 (μ.1 (55 + 4 * a) 1 - μ.1 (36 + q) 3) (36 + q) 3)) (36 + q) 6 h = up2 (up2 (up2 μ.1 (55 + 4 * a) 1 (nI (p - r))) (55 + 4 * b) 1 (nI (if a = b then p else s + r))) (36 + q) 6 h := by
                  rw [gp, gr, pk_sub (by omega)]
                  by_cases e : a = b
                  · subst e
                    simp (disch := omega) only [up2_ne, up2_at, gr, nI_add, if_true, Nat.sub_add_cancel (show r ≤ p by omega)]
                  · simp (disch := omega) only [up2_ne, up2_p, gr, gs, nI_add, if_neg e]
                simp only [eM]
                clear eM
                generalize hw : (if a = b then p else s + r) = w
                have hw2 : w ≤ 9999 := by rw [← hw]; split <;> omega
                have d1 : ∀ c : Nat, 86 ≤ c → up2 (up2 (up2 μ.1 (55 + 4 * a) 1 (nI (p - r))) (55 + 4 * b) 1 (nI w)) (36 + q) 6 h c = μ.1 c := fun c hc => by simp (disch := omega) only [up2_ne]
                have n3' : up2 (up2 (up2 μ.1 (55 + 4 * a) 1 (nI (p - r))) (55 + 4 * b) 1 (nI w)) (36 + q) 6 h 86 37 = nI n := by rw [d1 86 (by omega)]; exact n3
                have c8' : ¬ up2 (up2 (up2 μ.1 (55 + 4 * a) 1 (nI (p - r))) (55 + 4 * b) 1 (nI w)) (36 + q) 6 h 86 15 = 1 := by rw [d1 86 (by omega)]; exact c8
                refine wp_aload_n (pc := 0) dX12_pay_0 (by first | rfl | assumption | (repeat first | assumption | rfl | refine aG_n ?_ rfl rfl)) ?_
                refine wp_iload_n (pc := 1) dX12_pay_1 (by first | rfl | assumption | (repeat first | assumption | rfl | refine aG_n ?_ rfl rfl)) ?_
                refine wp_cV (pc := 2) dX12_pay_2 lk_12_335 rfl (by decide) rfl (by first | rfl | assumption | exact sh_house (by omega) | exact sh_wish (by omega) | exact sh_wor (by omega) | exact sh_bar (by omega) | exact sh_term (by omega) | exact sh_sheet (by omega) | exact sh_items (by omega) | exact sh_sums (by omega)) rfl rfl (c_X12_isTerm n1 n3' (fun _ => aK_i ?_) (fun q => absurd c1 q))
                refine wp_if_eq (pc := 5) (tgt := 15) dX12_pay_5 rfl (fun q => absurd q (by decide)) (fun _ => ?_)
                refine wp_iload_n (pc := 8) dX12_pay_8 (by first | rfl | assumption | (repeat first | assumption | rfl | refine aG_n ?_ rfl rfl)) ?_
                refine wp_cS (pc := 9) dX12_pay_9 lk_12_326 rfl rfl rfl (c_X12_isHour (fun _ => aK_i ?_) (fun q => absurd c2 q))
                refine wp_if_ne (pc := 12) (tgt := 17) dX12_pay_12 rfl (fun _ => ?_) (fun q => absurd q (by decide))
                refine wp_aload_n (pc := 17) dX12_pay_17 (by first | rfl | assumption | (repeat first | assumption | rfl | refine aG_n ?_ rfl rfl)) ?_
                refine wp_getR (pc := 18) dX12_pay_18 fl_12_83 (by first | rfl | assumption | exact sh_house (by omega) | exact sh_wish (by omega) | exact sh_wor (by omega) | exact sh_bar (by omega) | exact sh_term (by omega) | exact sh_sheet (by omega) | exact sh_items (by omega) | exact sh_sums (by omega)) rfl ?_
                refine wp_iload_n (pc := 21) dX12_pay_21 (by first | rfl | assumption | (repeat first | assumption | rfl | refine aG_n ?_ rfl rfl)) ?_
                refine wp_iald (pc := 22) dX12_pay_22 (by first | rfl | assumption | exact sh_house (by omega) | exact sh_wish (by omega) | exact sh_wor (by omega) | exact sh_bar (by omega) | exact sh_term (by omega) | exact sh_sheet (by omega) | exact sh_items (by omega) | exact sh_sums (by omega)) (vp_in_nI (by omega) (by decide)) ?_
                refine wp_iconst (pc := 23) (v := 3) dX12_pay_23 (by decide) ?_
                refine wp_icmp_ne (pc := 24) (tgt := 30) dX12_pay_24 rfl (fun _ => ?_) (fun q => absurd q (by simp (disch := omega) only [nI_clamp, up2_ne, up2_p]; exact c3))
                refine wp_aload_n (pc := 30) dX12_pay_30 (by first | rfl | assumption | (repeat first | assumption | rfl | refine aG_n ?_ rfl rfl)) ?_
                refine wp_getR (pc := 31) dX12_pay_31 fl_12_86 (by first | rfl | assumption | exact sh_house (by omega) | exact sh_wish (by omega) | exact sh_wor (by omega) | exact sh_bar (by omega) | exact sh_term (by omega) | exact sh_sheet (by omega) | exact sh_items (by omega) | exact sh_sums (by omega)) rfl ?_
                refine wp_iload_n (pc := 34) dX12_pay_34 (by first | rfl | assumption | (repeat first | assumption | rfl | refine aG_n ?_ rfl rfl)) ?_
                refine wp_iald (pc := 35) dX12_pay_35 (by first | rfl | assumption | exact sh_house (by omega) | exact sh_wish (by omega) | exact sh_wor (by omega) | exact sh_bar (by omega) | exact sh_term (by omega) | exact sh_sheet (by omega) | exact sh_items (by omega) | exact sh_sums (by omega)) (vp_in_nI (by omega) (by decide)) ?_
                refine wp_istore_n (pc := 36) dX12_pay_36 (by decide) ?_
                refine wp_aload_n (pc := 37) dX12_pay_37 (by first | rfl | assumption | (repeat first | assumption | rfl | refine aG_n ?_ rfl rfl)) ?_
                refine wp_getR (pc := 38) dX12_pay_38 fl_12_89 (by first | rfl | assumption | exact sh_house (by omega) | exact sh_wish (by omega) | exact sh_wor (by omega) | exact sh_bar (by omega) | exact sh_term (by omega) | exact sh_sheet (by omega) | exact sh_items (by omega) | exact sh_sums (by omega)) rfl ?_
                refine wp_iload_n (pc := 41) dX12_pay_41 (by first | rfl | assumption | (repeat first | assumption | rfl | refine aG_n ?_ rfl rfl)) ?_
                refine wp_iald (pc := 42) dX12_pay_42 (by first | rfl | assumption | exact sh_house (by omega) | exact sh_wish (by omega) | exact sh_wor (by omega) | exact sh_bar (by omega) | exact sh_term (by omega) | exact sh_sheet (by omega) | exact sh_items (by omega) | exact sh_sums (by omega)) (vp_in_nI (by omega) (by decide)) ?_
                refine wp_istore (pc := 43) dX12_pay_43 (by decide) ?_
                refine wp_aload_n (pc := 45) dX12_pay_45 (by first | rfl | assumption | (repeat first | assumption | rfl | refine aG_n ?_ rfl rfl)) ?_
                refine wp_getR (pc := 46) dX12_pay_46 fl_12_101 (by first | rfl | assumption | exact sh_house (by omega) | exact sh_wish (by omega) | exact sh_wor (by omega) | exact sh_bar (by omega) | exact sh_term (by omega) | exact sh_sheet (by omega) | exact sh_items (by omega) | exact sh_sums (by omega)) rfl ?_
                refine wp_iload_n (pc := 49) dX12_pay_49 (by first | rfl | assumption | (repeat first | assumption | rfl | refine aG_n ?_ rfl rfl)) ?_
                refine wp_iald (pc := 50) dX12_pay_50 (by first | rfl | assumption | exact sh_house (by omega) | exact sh_wish (by omega) | exact sh_wor (by omega) | exact sh_bar (by omega) | exact sh_term (by omega) | exact sh_sheet (by omega) | exact sh_items (by omega) | exact sh_sums (by omega)) (vp_in_nI (by omega) (by decide)) ?_
                refine wp_bipush (pc := 51) (v := -4) dX12_pay_51 (by decide) ?_
                refine wp_icmp_ne (pc := 53) (tgt := 98) dX12_pay_53 rfl (fun q => absurd (by simp (disch := omega) only [nI_clamp, up2_ne, up2_p]; exact c4') q) (fun _ => ?_)
                refine wp_aload_n (pc := 56) dX12_pay_56 (by first | rfl | assumption | (repeat first | assumption | rfl | refine aG_n ?_ rfl rfl)) ?_
                refine wp_getR (pc := 57) dX12_pay_57 fl_12_13 (by first | rfl | assumption | exact sh_house (by omega) | exact sh_wish (by omega) | exact sh_wor (by omega) | exact sh_bar (by omega) | exact sh_term (by omega) | exact sh_sheet (by omega) | exact sh_items (by omega) | exact sh_sums (by omega)) rfl ?_
                refine wp_iload_n (pc := 60) dX12_pay_60 (by first | rfl | assumption | (repeat first | assumption | rfl | refine aG_n ?_ rfl rfl)) ?_
                refine wp_iald (pc := 61) dX12_pay_61 (by first | rfl | assumption | exact sh_house (by omega) | exact sh_wish (by omega) | exact sh_wor (by omega) | exact sh_bar (by omega) | exact sh_term (by omega) | exact sh_sheet (by omega) | exact sh_items (by omega) | exact sh_sums (by omega)) (by simp (disch := omega) only [nI_clamp, up2_ne, up2_p]; rw [ea]; exact vp_in_nI (by omega) (by decide)) ?_
                refine wp_aload_n (pc := 62) dX12_pay_62 (by first | rfl | assumption | (repeat first | assumption | rfl | refine aG_n ?_ rfl rfl)) ?_
                refine wp_getR (pc := 63) dX12_pay_63 fl_12_92 (by first | rfl | assumption | exact sh_house (by omega) | exact sh_wish (by omega) | exact sh_wor (by omega) | exact sh_bar (by omega) | exact sh_term (by omega) | exact sh_sheet (by omega) | exact sh_items (by omega) | exact sh_sums (by omega)) rfl ?_
                refine wp_iload_n (pc := 66) dX12_pay_66 (by first | rfl | assumption | (repeat first | assumption | rfl | refine aG_n ?_ rfl rfl)) ?_
                refine wp_iald (pc := 67) dX12_pay_67 (by first | rfl | assumption | exact sh_house (by omega) | exact sh_wish (by omega) | exact sh_wor (by omega) | exact sh_bar (by omega) | exact sh_term (by omega) | exact sh_sheet (by omega) | exact sh_items (by omega) | exact sh_sums (by omega)) (vp_in_nI (by omega) (by decide)) ?_
                refine wp_icmp_lt (pc := 68) (tgt := 98) dX12_pay_68 rfl (fun q => absurd q (by simp (disch := omega) only [nI_clamp, up2_ne, up2_p, ea, eb, fp, fs, fr, nI_add]; exact nI_nlt (by omega) (by omega))) (fun _ => ?_)
                refine wp_aload_n (pc := 71) dX12_pay_71 (by first | rfl | assumption | (repeat first | assumption | rfl | refine aG_n ?_ rfl rfl)) ?_
                refine wp_getR (pc := 72) dX12_pay_72 fl_12_13 (by first | rfl | assumption | exact sh_house (by omega) | exact sh_wish (by omega) | exact sh_wor (by omega) | exact sh_bar (by omega) | exact sh_term (by omega) | exact sh_sheet (by omega) | exact sh_items (by omega) | exact sh_sums (by omega)) rfl ?_
                refine wp_iload (pc := 75) dX12_pay_75 (by first | rfl | assumption | (repeat first | assumption | rfl | refine aG_n ?_ rfl rfl)) ?_
                refine wp_iald (pc := 77) dX12_pay_77 (by first | rfl | assumption | exact sh_house (by omega) | exact sh_wish (by omega) | exact sh_wor (by omega) | exact sh_bar (by omega) | exact sh_term (by omega) | exact sh_sheet (by omega) | exact sh_items (by omega) | exact sh_sums (by omega)) (by simp (disch := omega) only [nI_clamp, up2_ne, up2_p]; rw [eb]; exact vp_in_nI (by omega) (by decide)) ?_
                refine wp_aload_n (pc := 78) dX12_pay_78 (by first | rfl | assumption | (repeat first | assumption | rfl | refine aG_n ?_ rfl rfl)) ?_
                refine wp_getR (pc := 79) dX12_pay_79 fl_12_92 (by first | rfl | assumption | exact sh_house (by omega) | exact sh_wish (by omega) | exact sh_wor (by omega) | exact sh_bar (by omega) | exact sh_term (by omega) | exact sh_sheet (by omega) | exact sh_items (by omega) | exact sh_sums (by omega)) rfl ?_
                refine wp_iload_n (pc := 82) dX12_pay_82 (by first | rfl | assumption | (repeat first | assumption | rfl | refine aG_n ?_ rfl rfl)) ?_
                refine wp_iald (pc := 83) dX12_pay_83 (by first | rfl | assumption | exact sh_house (by omega) | exact sh_wish (by omega) | exact sh_wor (by omega) | exact sh_bar (by omega) | exact sh_term (by omega) | exact sh_sheet (by omega) | exact sh_items (by omega) | exact sh_sums (by omega)) (vp_in_nI (by omega) (by decide)) ?_
                refine wp_iadd (pc := 84) dX12_pay_84 ?_
                refine wp_sipush (pc := 85) (v := 9999) dX12_pay_85 (by decide) ?_
                refine wp_icmp_gt (pc := 88) (tgt := 98) dX12_pay_88 rfl (fun q => absurd q (by simp (disch := omega) only [nI_clamp, up2_ne, up2_p, ea, eb, fp, fs, fr, nI_add]; exact nI_nlt (a := 9999) (b := s + r) (by omega) (by omega))) (fun _ => ?_)
                refine wp_aload_n (pc := 91) dX12_pay_91 (by first | rfl | assumption | (repeat first | assumption | rfl | refine aG_n ?_ rfl rfl)) ?_
                refine wp_cV (pc := 92) dX12_pay_92 lk_12_147 rfl (by decide) rfl (by first | rfl | assumption | exact sh_house (by omega) | exact sh_wish (by omega) | exact sh_wor (by omega) | exact sh_bar (by omega) | exact sh_term (by omega) | exact sh_sheet (by omega) | exact sh_items (by omega) | exact sh_sums (by omega)) rfl rfl (c_X12_isTalking (fun q => absurd q c8') (fun _ => aK_i ?_))
                refine wp_if_eq (pc := 95) (tgt := 101) dX12_pay_95 rfl (fun _ => ?_) (fun q => absurd q (by decide))
                refine wp_aload_n (pc := 101) dX12_pay_101 (by first | rfl | assumption | (repeat first | assumption | rfl | refine aG_n ?_ rfl rfl)) ?_
                refine wp_getR (pc := 102) dX12_pay_102 fl_12_13 (by first | rfl | assumption | exact sh_house (by omega) | exact sh_wish (by omega) | exact sh_wor (by omega) | exact sh_bar (by omega) | exact sh_term (by omega) | exact sh_sheet (by omega) | exact sh_items (by omega) | exact sh_sums (by omega)) rfl ?_
                refine wp_iload_n (pc := 105) dX12_pay_105 (by first | rfl | assumption | (repeat first | assumption | rfl | refine aG_n ?_ rfl rfl)) ?_
                refine wp_dup2 (pc := 106) dX12_pay_106 ?_
                refine wp_iald (pc := 107) dX12_pay_107 (by first | rfl | assumption | exact sh_house (by omega) | exact sh_wish (by omega) | exact sh_wor (by omega) | exact sh_bar (by omega) | exact sh_term (by omega) | exact sh_sheet (by omega) | exact sh_items (by omega) | exact sh_sums (by omega)) (by simp (disch := omega) only [nI_clamp, up2_ne, up2_p]; rw [ea]; exact vp_in_nI (by omega) (by decide)) ?_
                refine wp_aload_n (pc := 108) dX12_pay_108 (by first | rfl | assumption | (repeat first | assumption | rfl | refine aG_n ?_ rfl rfl)) ?_
                refine wp_getR (pc := 109) dX12_pay_109 fl_12_92 (by first | rfl | assumption | exact sh_house (by omega) | exact sh_wish (by omega) | exact sh_wor (by omega) | exact sh_bar (by omega) | exact sh_term (by omega) | exact sh_sheet (by omega) | exact sh_items (by omega) | exact sh_sums (by omega)) rfl ?_
                refine wp_iload_n (pc := 112) dX12_pay_112 (by first | rfl | assumption | (repeat first | assumption | rfl | refine aG_n ?_ rfl rfl)) ?_
                refine wp_iald (pc := 113) dX12_pay_113 (by first | rfl | assumption | exact sh_house (by omega) | exact sh_wish (by omega) | exact sh_wor (by omega) | exact sh_bar (by omega) | exact sh_term (by omega) | exact sh_sheet (by omega) | exact sh_items (by omega) | exact sh_sums (by omega)) (vp_in_nI (by omega) (by decide)) ?_
                refine wp_isub (pc := 114) dX12_pay_114 ?_
                refine wp_iast (pc := 115) dX12_pay_115 (by first | rfl | assumption | exact sh_house (by omega) | exact sh_wish (by omega) | exact sh_wor (by omega) | exact sh_bar (by omega) | exact sh_term (by omega) | exact sh_sheet (by omega) | exact sh_items (by omega) | exact sh_sums (by omega)) (by simp (disch := omega) only [nI_clamp, up2_ne, up2_p]; rw [ea]; exact vp_in_nI (by omega) (by decide)) ?_
                refine wp_aload_n (pc := 116) dX12_pay_116 (by first | rfl | assumption | (repeat first | assumption | rfl | refine aG_n ?_ rfl rfl)) ?_
                refine wp_getR (pc := 117) dX12_pay_117 fl_12_13 (by first | rfl | assumption | exact sh_house (by omega) | exact sh_wish (by omega) | exact sh_wor (by omega) | exact sh_bar (by omega) | exact sh_term (by omega) | exact sh_sheet (by omega) | exact sh_items (by omega) | exact sh_sums (by omega)) rfl ?_
                refine wp_iload (pc := 120) dX12_pay_120 (by first | rfl | assumption | (repeat first | assumption | rfl | refine aG_n ?_ rfl rfl)) ?_
                refine wp_dup2 (pc := 122) dX12_pay_122 ?_
                refine wp_iald (pc := 123) dX12_pay_123 (by first | rfl | assumption | exact sh_house (by omega) | exact sh_wish (by omega) | exact sh_wor (by omega) | exact sh_bar (by omega) | exact sh_term (by omega) | exact sh_sheet (by omega) | exact sh_items (by omega) | exact sh_sums (by omega)) (by simp (disch := omega) only [nI_clamp, up2_ne, up2_p]; rw [eb]; exact vp_in_nI (by omega) (by decide)) ?_
                refine wp_aload_n (pc := 124) dX12_pay_124 (by first | rfl | assumption | (repeat first | assumption | rfl | refine aG_n ?_ rfl rfl)) ?_
                refine wp_getR (pc := 125) dX12_pay_125 fl_12_92 (by first | rfl | assumption | exact sh_house (by omega) | exact sh_wish (by omega) | exact sh_wor (by omega) | exact sh_bar (by omega) | exact sh_term (by omega) | exact sh_sheet (by omega) | exact sh_items (by omega) | exact sh_sums (by omega)) rfl ?_
                refine wp_iload_n (pc := 128) dX12_pay_128 (by first | rfl | assumption | (repeat first | assumption | rfl | refine aG_n ?_ rfl rfl)) ?_
                refine wp_iald (pc := 129) dX12_pay_129 (by first | rfl | assumption | exact sh_house (by omega) | exact sh_wish (by omega) | exact sh_wor (by omega) | exact sh_bar (by omega) | exact sh_term (by omega) | exact sh_sheet (by omega) | exact sh_items (by omega) | exact sh_sums (by omega)) (vp_in_nI (by omega) (by decide)) ?_
                refine wp_iadd (pc := 130) dX12_pay_130 ?_
                refine wp_iast (pc := 131) dX12_pay_131 (by first | rfl | assumption | exact sh_house (by omega) | exact sh_wish (by omega) | exact sh_wor (by omega) | exact sh_bar (by omega) | exact sh_term (by omega) | exact sh_sheet (by omega) | exact sh_items (by omega) | exact sh_sums (by omega)) (by simp (disch := omega) only [nI_clamp, up2_ne, up2_p]; rw [eb]; exact vp_in_nI (by omega) (by decide)) ?_
                refine wp_aload_n (pc := 132) dX12_pay_132 (by first | rfl | assumption | (repeat first | assumption | rfl | refine aG_n ?_ rfl rfl)) ?_
                refine wp_getR (pc := 133) dX12_pay_133 fl_12_101 (by first | rfl | assumption | exact sh_house (by omega) | exact sh_wish (by omega) | exact sh_wor (by omega) | exact sh_bar (by omega) | exact sh_term (by omega) | exact sh_sheet (by omega) | exact sh_items (by omega) | exact sh_sums (by omega)) rfl ?_
                refine wp_iload_n (pc := 136) dX12_pay_136 (by first | rfl | assumption | (repeat first | assumption | rfl | refine aG_n ?_ rfl rfl)) ?_
                refine wp_iload_n (pc := 137) dX12_pay_137 (by first | rfl | assumption | (repeat first | assumption | rfl | refine aG_n ?_ rfl rfl)) ?_
                refine wp_iast (pc := 138) dX12_pay_138 (by first | rfl | assumption | exact sh_house (by omega) | exact sh_wish (by omega) | exact sh_wor (by omega) | exact sh_bar (by omega) | exact sh_term (by omega) | exact sh_sheet (by omega) | exact sh_items (by omega) | exact sh_sums (by omega)) (vp_in_nI (by omega) (by decide)) ?_
                refine wp_aload_n (pc := 139) dX12_pay_139 (by first | rfl | assumption | (repeat first | assumption | rfl | refine aG_n ?_ rfl rfl)) ?_
                refine wp_getR (pc := 140) dX12_pay_140 fl_12_13 (by first | rfl | assumption | exact sh_house (by omega) | exact sh_wish (by omega) | exact sh_wor (by omega) | exact sh_bar (by omega) | exact sh_term (by omega) | exact sh_sheet (by omega) | exact sh_items (by omega) | exact sh_sums (by omega)) rfl ?_
                refine wp_iload (pc := 143) dX12_pay_143 (by first | rfl | assumption | (repeat first | assumption | rfl | refine aG_n ?_ rfl rfl)) ?_
                refine wp_iald (pc := 145) dX12_pay_145 (by first | rfl | assumption | exact sh_house (by omega) | exact sh_wish (by omega) | exact sh_wor (by omega) | exact sh_bar (by omega) | exact sh_term (by omega) | exact sh_sheet (by omega) | exact sh_items (by omega) | exact sh_sums (by omega)) (by simp (disch := omega) only [nI_clamp, up2_ne, up2_p]; rw [eb]; exact vp_in_nI (by omega) (by decide)) ?_
                refine wp_ireturn (pc := 146) dX12_pay_146 rfl (by first | rfl | decide | assumption) ?_
                refine qEq ?_ (mEq (M' := up2 (up2 (up2 (up2 (up2 (up2 μ.1 (55 + 4 * a) 1 (nI (p - r))) (55 + 4 * b) 1 (nI w)) (36 + q) 6 h) 88 a (nI (p - r))) 88 b (nI w)) 117 q h) ?_ (k' _ ?_))
                · by_cases e : a = b
                  · subst e
                    rw [if_pos rfl] at hw
                    subst hw
                    simp (disch := omega) only [nI_clamp, up2_ne, up2_p, up2_at, ea, eb, fp, fs, fr, gp, gs, gr, nI_add, pk_sub, Nat.sub_add_cancel]
                  · rw [if_neg e] at hw
                    subst hw
                    simp (disch := omega) only [nI_clamp, up2_ne, up2_p, up2_at, ea, eb, fp, fs, fr, gp, gs, gr, nI_add, pk_sub, Nat.sub_add_cancel]
                · by_cases e : a = b
                  · subst e
                    rw [if_pos rfl] at hw
                    subst hw
                    simp (disch := omega) only [nI_clamp, up2_ne, up2_p, up2_at, ea, eb, fp, fs, fr, gp, gs, gr, nI_add, pk_sub, Nat.sub_add_cancel]
                  · rw [if_neg e] at hw
                    subst hw
                    simp (disch := omega) only [nI_clamp, up2_ne, up2_p, up2_at, ea, eb, fp, fs, fr, gp, gs, gr, nI_add, pk_sub, Nat.sub_add_cancel]
                · refine ⟨own_c (by simp (disch := omega) only [up2_ne, fil_ne]) (fun i9 hi9 => (by simp (disch := omega) only [up2_ne, up2_p, fil_ne, fil_p])) (hI.1), ?_, lev_c ⟨(by simp (disch := omega) only [up2_ne, fil_ne]), (by simp (disch := omega) only [up2_ne, fil_ne]), (by simp (disch := omega) only [up2_ne, fil_ne])⟩ (fun i9 hi9 => ⟨(by simp (disch := omega) only [up2_ne, up2_p, fil_ne, fil_p]), (by simp (disch := omega) only [up2_ne, up2_p, fil_ne, fil_p]), (by simp (disch := omega) only [up2_ne, up2_p, fil_ne, fil_p])⟩) (hI.2.2.1), wish_c ⟨(by simp (disch := omega) only [up2_ne, fil_ne]), (by simp (disch := omega) only [up2_ne, fil_ne]), (by simp (disch := omega) only [up2_ne, fil_ne]), (by simp (disch := omega) only [up2_ne, fil_ne])⟩ (fun i9 hi9 => ⟨(by simp (disch := omega) only [up2_ne, fil_ne]), (by simp (disch := omega) only [up2_ne, fil_ne]), (by simp (disch := omega) only [up2_ne, fil_ne])⟩) (hI.2.2.2.1), tape_c (by simp (disch := omega) only [up2_ne, up2_p, fil_ne, fil_p]) (by simp (disch := omega) only [up2_ne, up2_p, fil_ne, fil_p]) (by simp (disch := omega) only [up2_ne, fil_ne]) (by simp (disch := omega) only [up2_ne, fil_ne]) (hI.2.2.2.2.1), talk_c ⟨(by simp (disch := omega) only [up2_ne, fil_ne]), (by simp (disch := omega) only [up2_ne, fil_ne]), (by simp (disch := omega) only [up2_ne, fil_ne]), (by simp (disch := omega) only [up2_ne, fil_ne]), (by simp (disch := omega) only [up2_ne, fil_ne])⟩ ⟨(by simp (disch := omega) only [up2_ne, fil_ne]), (by simp (disch := omega) only [up2_ne, fil_ne]), (by simp (disch := omega) only [up2_ne, fil_ne])⟩ (fun j9 hj9 hk9 => (by simp (disch := omega) only [up2_ne, up2_p, fil_ne, fil_p])) (fun o9 => absurd o9 c8) rfl (hI.2.2.2.2.2.1), ?_, row_c (by simp (disch := omega) only [up2_ne, fil_ne]) (by simp (disch := omega) only [up2_ne, fil_ne]) (hI.2.2.2.2.2.2.2.1), sheet_c ⟨(by simp (disch := omega) only [up2_ne, fil_ne]), (by simp (disch := omega) only [up2_ne, fil_ne]), (by simp (disch := omega) only [up2_ne, fil_ne])⟩ (fun s9 hs9 => ⟨(by simp (disch := omega) only [up2_ne, fil_ne]), (by simp (disch := omega) only [up2_ne, fil_ne])⟩) (hI.2.2.2.2.2.2.2.2.1), grp_c (by simp (disch := omega) only [up2_ne, up2_p, fil_ne, fil_p]) (fun g9 hg9 => (by simp (disch := omega) only [up2_ne, fil_ne])) (fun i9 hi9 => ⟨(by simp (disch := omega) only [up2_ne, fil_ne]), (by simp (disch := omega) only [up2_ne, fil_ne])⟩) (hI.2.2.2.2.2.2.2.2.2)⟩
                  · intro i hi
                    have hh := hI.2.1 i hi
                    by_cases z1 : i = b
                    · subst z1
                      simp (disch := omega) only [up2_ne, up2_at]
                      exact ⟨trivial, inR_nI (n := 9999) hw2 (by decide)⟩
                    · by_cases z2 : i = a
                      · subst z2
                        simp (disch := omega) only [up2_ne, up2_p, up2_at]
                        exact ⟨trivial, inR_nI (n := 9999) (by omega) (by decide)⟩
                      · simp (disch := omega) only [up2_ne, up2_p]
                        exact hh
                  · obtain ⟨⟨m, a1, a2, a3, a4, a5⟩, a6⟩ := hL
                    obtain rfl : m = n := (nI_eq (by omega) (by omega)).mp (a3.symm.trans n3)
                    refine ⟨⟨m, a1, ?_, ?_, fun i hi => ?_, fun i hi hk => ?_⟩, fun y hy => ?_⟩
                    · simp (disch := omega) only [up2_ne, up2_p]; exact a2
                    · simp (disch := omega) only [up2_ne, up2_p]; exact a3
                    · have hh := a4 i hi
                      by_cases z : i = q
                      · subst z
                        simp (disch := omega) only [up2_ne, up2_p, up2_at]
                        exact ⟨hh.1, hh.2.1, hh.2.2.1, hh.2.2.2.1, hh.2.2.2.2.1, hh.2.2.2.2.2.1, hh.2.2.2.2.2.2.1, hh.2.2.2.2.2.2.2.1, hh.2.2.2.2.2.2.2.2.1, Or.inr ⟨trivial, c2⟩⟩
                      · simp (disch := omega) only [up2_ne, up2_p]
                        exact hh
                    · simp (disch := omega) only [up2_ne, up2_p]; exact a5 i hi hk
                    · simp (disch := omega) only [up2_ne, up2_p]; exact a6 y hy
        · have c4' : ¬ μ.1 117 q = -4 := by
            rcases v6 with z | z
            · exact absurd z.1 c4
            · intro y; have := z.2.1; rw [y] at this; exact absurd this (by decide)
          refine wp_aload_n (pc := 0) dX11_pay_0 (by first | rfl | assumption | (repeat first | assumption | rfl | refine aG_n ?_ rfl rfl)) ?_
          refine wp_getR (pc := 1) dX11_pay_1 fl_11_53 (by first | rfl | assumption | exact sh_house (by omega) | exact sh_wish (by omega) | exact sh_wor (by omega) | exact sh_bar (by omega) | exact sh_term (by omega) | exact sh_sheet (by omega) | exact sh_items (by omega) | exact sh_sums (by omega)) rfl ?_
          refine wp_iload_n (pc := 4) dX11_pay_4 (by first | rfl | assumption | (repeat first | assumption | rfl | refine aG_n ?_ rfl rfl)) ?_
          refine wp_cV (pc := 5) dX11_pay_5 lk_11_303 rfl (by decide) rfl (by first | rfl | assumption | exact sh_house (by omega) | exact sh_wish (by omega) | exact sh_wor (by omega) | exact sh_bar (by omega) | exact sh_term (by omega) | exact sh_sheet (by omega) | exact sh_items (by omega) | exact sh_sums (by omega)) rfl rfl (c_X2_hasTerm n1 n2 (fun _ => aK_i ?_) (fun q => absurd c1 q))
          refine wp_if_eq (pc := 8) (tgt := 18) dX11_pay_8 rfl (fun q => absurd q (by decide)) (fun _ => ?_)
          refine wp_iload_n (pc := 11) dX11_pay_11 (by first | rfl | assumption | (repeat first | assumption | rfl | refine aG_n ?_ rfl rfl)) ?_
          refine wp_cS (pc := 12) dX11_pay_12 lk_11_294 rfl rfl rfl (c_X11_isHour (fun _ => aK_i ?_) (fun q => absurd c2 q))
          refine wp_if_ne (pc := 15) (tgt := 20) dX11_pay_15 rfl (fun _ => ?_) (fun q => absurd q (by decide))
          refine wp_aload_n (pc := 20) dX11_pay_20 (by first | rfl | assumption | (repeat first | assumption | rfl | refine aG_n ?_ rfl rfl)) ?_
          refine wp_getR (pc := 21) dX11_pay_21 fl_11_53 (by first | rfl | assumption | exact sh_house (by omega) | exact sh_wish (by omega) | exact sh_wor (by omega) | exact sh_bar (by omega) | exact sh_term (by omega) | exact sh_sheet (by omega) | exact sh_items (by omega) | exact sh_sums (by omega)) rfl ?_
          refine wp_iload_n (pc := 24) dX11_pay_24 (by first | rfl | assumption | (repeat first | assumption | rfl | refine aG_n ?_ rfl rfl)) ?_
          refine wp_cV (pc := 25) dX11_pay_25 lk_11_312 rfl (by decide) rfl (by first | rfl | assumption | exact sh_house (by omega) | exact sh_wish (by omega) | exact sh_wor (by omega) | exact sh_bar (by omega) | exact sh_term (by omega) | exact sh_sheet (by omega) | exact sh_items (by omega) | exact sh_sums (by omega)) rfl rfl ?_
          refine wp_aload_n (pc := 0) dX2_isBar_0 (by first | rfl | assumption | (repeat first | assumption | rfl | refine aG_n ?_ rfl rfl)) ?_
          refine wp_getR (pc := 1) dX2_isBar_1 fl_2_13 (by first | rfl | assumption | exact sh_house (by omega) | exact sh_wish (by omega) | exact sh_wor (by omega) | exact sh_bar (by omega) | exact sh_term (by omega) | exact sh_sheet (by omega) | exact sh_items (by omega) | exact sh_sums (by omega)) rfl ?_
          refine wp_iload_n (pc := 4) dX2_isBar_4 (by first | rfl | assumption | (repeat first | assumption | rfl | refine aG_n ?_ rfl rfl)) ?_
          refine wp_aald (pc := 5) dX2_isBar_5 (by first | rfl | assumption | exact sh_house (by omega) | exact sh_wish (by omega) | exact sh_wor (by omega) | exact sh_bar (by omega) | exact sh_term (by omega) | exact sh_sheet (by omega) | exact sh_items (by omega) | exact sh_sums (by omega)) (vp_in_nI (by omega) (by decide)) (by decide) (el_term (by omega)) ?_
          refine wp_getI (pc := 6) dX2_isBar_6 fl_2_32 (by first | rfl | assumption | exact sh_house (by omega) | exact sh_wish (by omega) | exact sh_wor (by omega) | exact sh_bar (by omega) | exact sh_term (by omega) | exact sh_sheet (by omega) | exact sh_items (by omega) | exact sh_sums (by omega)) rfl ?_
          refine wp_iconst (pc := 9) (v := 3) dX2_isBar_9 (by decide) ?_
          refine wp_icmp_ne (pc := 10) (tgt := 17) dX2_isBar_10 rfl (fun _ => ?_) (fun q => absurd q c3')
          refine wp_iconst (pc := 17) (v := 0) dX2_isBar_17 (by decide) ?_
          refine wp_iretK (pc := 18) dX2_isBar_18 rfl (by first | rfl | decide | assumption) ?_
          refine wp_if_eq (pc := 28) (tgt := 34) dX11_pay_28 rfl (fun _ => ?_) (fun q => absurd q (by decide))
          refine wp_aload_n (pc := 34) dX11_pay_34 (by first | rfl | assumption | (repeat first | assumption | rfl | refine aG_n ?_ rfl rfl)) ?_
          refine wp_getR (pc := 35) dX11_pay_35 fl_11_53 (by first | rfl | assumption | exact sh_house (by omega) | exact sh_wish (by omega) | exact sh_wor (by omega) | exact sh_bar (by omega) | exact sh_term (by omega) | exact sh_sheet (by omega) | exact sh_items (by omega) | exact sh_sums (by omega)) rfl ?_
          refine wp_getR (pc := 38) dX11_pay_38 fl_11_315 (by first | rfl | assumption | exact sh_house (by omega) | exact sh_wish (by omega) | exact sh_wor (by omega) | exact sh_bar (by omega) | exact sh_term (by omega) | exact sh_sheet (by omega) | exact sh_items (by omega) | exact sh_sums (by omega)) rfl ?_
          refine wp_iload_n (pc := 41) dX11_pay_41 (by first | rfl | assumption | (repeat first | assumption | rfl | refine aG_n ?_ rfl rfl)) ?_
          refine wp_aald (pc := 42) dX11_pay_42 (by first | rfl | assumption | exact sh_house (by omega) | exact sh_wish (by omega) | exact sh_wor (by omega) | exact sh_bar (by omega) | exact sh_term (by omega) | exact sh_sheet (by omega) | exact sh_items (by omega) | exact sh_sums (by omega)) (vp_in_nI (by omega) (by decide)) (by decide) (el_term (by omega)) ?_
          refine wp_astore_n (pc := 43) dX11_pay_43 (by decide) ?_
          refine wp_aload_n (pc := 44) dX11_pay_44 (by first | rfl | assumption | (repeat first | assumption | rfl | refine aG_n ?_ rfl rfl)) ?_
          refine wp_getR (pc := 45) dX11_pay_45 fl_11_11 (by first | rfl | assumption | exact sh_house (by omega) | exact sh_wish (by omega) | exact sh_wor (by omega) | exact sh_bar (by omega) | exact sh_term (by omega) | exact sh_sheet (by omega) | exact sh_items (by omega) | exact sh_sums (by omega)) rfl ?_
          refine wp_aload_n (pc := 48) dX11_pay_48 (by first | rfl | assumption | (repeat first | assumption | rfl | refine aG_n ?_ rfl rfl)) ?_
          refine wp_getI (pc := 49) dX11_pay_49 fl_11_319 (by first | rfl | assumption | exact sh_house (by omega) | exact sh_wish (by omega) | exact sh_wor (by omega) | exact sh_bar (by omega) | exact sh_term (by omega) | exact sh_sheet (by omega) | exact sh_items (by omega) | exact sh_sums (by omega)) rfl ?_
          refine wp_aald (pc := 52) dX11_pay_52 (by first | rfl | assumption | exact sh_house (by omega) | exact sh_wish (by omega) | exact sh_wor (by omega) | exact sh_bar (by omega) | exact sh_term (by omega) | exact sh_sheet (by omega) | exact sh_items (by omega) | exact sh_sums (by omega)) (by rw [fa]; exact vp_in_nI (by omega) (by decide)) (by decide) (show _ = some (55 + 4 * a) by rw [fa]; exact el_house (by omega)) ?_
          refine wp_astore (pc := 53) dX11_pay_53 (by decide) ?_
          refine wp_aload_n (pc := 55) dX11_pay_55 (by first | rfl | assumption | (repeat first | assumption | rfl | refine aG_n ?_ rfl rfl)) ?_
          refine wp_getR (pc := 56) dX11_pay_56 fl_11_11 (by first | rfl | assumption | exact sh_house (by omega) | exact sh_wish (by omega) | exact sh_wor (by omega) | exact sh_bar (by omega) | exact sh_term (by omega) | exact sh_sheet (by omega) | exact sh_items (by omega) | exact sh_sums (by omega)) rfl ?_
          refine wp_aload_n (pc := 59) dX11_pay_59 (by first | rfl | assumption | (repeat first | assumption | rfl | refine aG_n ?_ rfl rfl)) ?_
          refine wp_getI (pc := 60) dX11_pay_60 fl_11_324 (by first | rfl | assumption | exact sh_house (by omega) | exact sh_wish (by omega) | exact sh_wor (by omega) | exact sh_bar (by omega) | exact sh_term (by omega) | exact sh_sheet (by omega) | exact sh_items (by omega) | exact sh_sums (by omega)) rfl ?_
          refine wp_aald (pc := 63) dX11_pay_63 (by first | rfl | assumption | exact sh_house (by omega) | exact sh_wish (by omega) | exact sh_wor (by omega) | exact sh_bar (by omega) | exact sh_term (by omega) | exact sh_sheet (by omega) | exact sh_items (by omega) | exact sh_sums (by omega)) (by rw [fb]; exact vp_in_nI (by omega) (by decide)) (by decide) (show _ = some (55 + 4 * b) by rw [fb]; exact el_house (by omega)) ?_
          refine wp_astore (pc := 64) dX11_pay_64 (by decide) ?_
          refine wp_aload_n (pc := 66) dX11_pay_66 (by first | rfl | assumption | (repeat first | assumption | rfl | refine aG_n ?_ rfl rfl)) ?_
          refine wp_cV (pc := 67) dX11_pay_67 lk_11_327 rfl (by decide) rfl (by first | rfl | assumption | exact sh_house (by omega) | exact sh_wish (by omega) | exact sh_wor (by omega) | exact sh_bar (by omega) | exact sh_term (by omega) | exact sh_sheet (by omega) | exact sh_items (by omega) | exact sh_sums (by omega)) rfl rfl ?_
          refine wp_aload_n (pc := 0) dX9_isPaid_0 (by first | rfl | assumption | (repeat first | assumption | rfl | refine aG_n ?_ rfl rfl)) ?_
          refine wp_getI (pc := 1) dX9_isPaid_1 fl_9_9 (by first | rfl | assumption | exact sh_house (by omega) | exact sh_wish (by omega) | exact sh_wor (by omega) | exact sh_bar (by omega) | exact sh_term (by omega) | exact sh_sheet (by omega) | exact sh_items (by omega) | exact sh_sums (by omega)) rfl ?_
          refine wp_iconst (pc := 4) (v := -1) dX9_isPaid_4 (by decide) ?_
          refine wp_icmp_eq (pc := 5) (tgt := 12) dX9_isPaid_5 rfl (fun q => absurd q c4) (fun _ => ?_)
          refine wp_iconst (pc := 8) (v := 1) dX9_isPaid_8 (by decide) ?_
          refine wp_goto (pc := 9) (tgt := 13) dX9_isPaid_9 rfl ?_
          refine wp_iretK (pc := 13) dX9_isPaid_13 rfl (by first | rfl | decide | assumption) ?_
          refine wp_if_ne (pc := 70) (tgt := 111) dX11_pay_70 rfl (fun _ => ?_) (fun q => absurd q (by decide))
          refine wp_bipush (pc := 111) (v := -2) dX11_pay_111 (by decide) ?_
          refine wp_ireturn (pc := 113) dX11_pay_113 rfl (by first | rfl | decide | assumption) ?_
          refine k _ _ (fun Q' k' => ?_)
          refine wp_aload_n (pc := 0) dX12_pay_0 (by first | rfl | assumption | (repeat first | assumption | rfl | refine aG_n ?_ rfl rfl)) ?_
          refine wp_iload_n (pc := 1) dX12_pay_1 (by first | rfl | assumption | (repeat first | assumption | rfl | refine aG_n ?_ rfl rfl)) ?_
          refine wp_cV (pc := 2) dX12_pay_2 lk_12_335 rfl (by decide) rfl (by first | rfl | assumption | exact sh_house (by omega) | exact sh_wish (by omega) | exact sh_wor (by omega) | exact sh_bar (by omega) | exact sh_term (by omega) | exact sh_sheet (by omega) | exact sh_items (by omega) | exact sh_sums (by omega)) rfl rfl (c_X12_isTerm n1 n3 (fun _ => aK_i ?_) (fun q => absurd c1 q))
          refine wp_if_eq (pc := 5) (tgt := 15) dX12_pay_5 rfl (fun q => absurd q (by decide)) (fun _ => ?_)
          refine wp_iload_n (pc := 8) dX12_pay_8 (by first | rfl | assumption | (repeat first | assumption | rfl | refine aG_n ?_ rfl rfl)) ?_
          refine wp_cS (pc := 9) dX12_pay_9 lk_12_326 rfl rfl rfl (c_X12_isHour (fun _ => aK_i ?_) (fun q => absurd c2 q))
          refine wp_if_ne (pc := 12) (tgt := 17) dX12_pay_12 rfl (fun _ => ?_) (fun q => absurd q (by decide))
          refine wp_aload_n (pc := 17) dX12_pay_17 (by first | rfl | assumption | (repeat first | assumption | rfl | refine aG_n ?_ rfl rfl)) ?_
          refine wp_getR (pc := 18) dX12_pay_18 fl_12_83 (by first | rfl | assumption | exact sh_house (by omega) | exact sh_wish (by omega) | exact sh_wor (by omega) | exact sh_bar (by omega) | exact sh_term (by omega) | exact sh_sheet (by omega) | exact sh_items (by omega) | exact sh_sums (by omega)) rfl ?_
          refine wp_iload_n (pc := 21) dX12_pay_21 (by first | rfl | assumption | (repeat first | assumption | rfl | refine aG_n ?_ rfl rfl)) ?_
          refine wp_iald (pc := 22) dX12_pay_22 (by first | rfl | assumption | exact sh_house (by omega) | exact sh_wish (by omega) | exact sh_wor (by omega) | exact sh_bar (by omega) | exact sh_term (by omega) | exact sh_sheet (by omega) | exact sh_items (by omega) | exact sh_sums (by omega)) (vp_in_nI (by omega) (by decide)) ?_
          refine wp_iconst (pc := 23) (v := 3) dX12_pay_23 (by decide) ?_
          refine wp_icmp_ne (pc := 24) (tgt := 30) dX12_pay_24 rfl (fun _ => ?_) (fun q => absurd q (by rw [ec]; exact c3))
          refine wp_aload_n (pc := 30) dX12_pay_30 (by first | rfl | assumption | (repeat first | assumption | rfl | refine aG_n ?_ rfl rfl)) ?_
          refine wp_getR (pc := 31) dX12_pay_31 fl_12_86 (by first | rfl | assumption | exact sh_house (by omega) | exact sh_wish (by omega) | exact sh_wor (by omega) | exact sh_bar (by omega) | exact sh_term (by omega) | exact sh_sheet (by omega) | exact sh_items (by omega) | exact sh_sums (by omega)) rfl ?_
          refine wp_iload_n (pc := 34) dX12_pay_34 (by first | rfl | assumption | (repeat first | assumption | rfl | refine aG_n ?_ rfl rfl)) ?_
          refine wp_iald (pc := 35) dX12_pay_35 (by first | rfl | assumption | exact sh_house (by omega) | exact sh_wish (by omega) | exact sh_wor (by omega) | exact sh_bar (by omega) | exact sh_term (by omega) | exact sh_sheet (by omega) | exact sh_items (by omega) | exact sh_sums (by omega)) (vp_in_nI (by omega) (by decide)) ?_
          refine wp_istore_n (pc := 36) dX12_pay_36 (by decide) ?_
          refine wp_aload_n (pc := 37) dX12_pay_37 (by first | rfl | assumption | (repeat first | assumption | rfl | refine aG_n ?_ rfl rfl)) ?_
          refine wp_getR (pc := 38) dX12_pay_38 fl_12_89 (by first | rfl | assumption | exact sh_house (by omega) | exact sh_wish (by omega) | exact sh_wor (by omega) | exact sh_bar (by omega) | exact sh_term (by omega) | exact sh_sheet (by omega) | exact sh_items (by omega) | exact sh_sums (by omega)) rfl ?_
          refine wp_iload_n (pc := 41) dX12_pay_41 (by first | rfl | assumption | (repeat first | assumption | rfl | refine aG_n ?_ rfl rfl)) ?_
          refine wp_iald (pc := 42) dX12_pay_42 (by first | rfl | assumption | exact sh_house (by omega) | exact sh_wish (by omega) | exact sh_wor (by omega) | exact sh_bar (by omega) | exact sh_term (by omega) | exact sh_sheet (by omega) | exact sh_items (by omega) | exact sh_sums (by omega)) (vp_in_nI (by omega) (by decide)) ?_
          refine wp_istore (pc := 43) dX12_pay_43 (by decide) ?_
          refine wp_aload_n (pc := 45) dX12_pay_45 (by first | rfl | assumption | (repeat first | assumption | rfl | refine aG_n ?_ rfl rfl)) ?_
          refine wp_getR (pc := 46) dX12_pay_46 fl_12_101 (by first | rfl | assumption | exact sh_house (by omega) | exact sh_wish (by omega) | exact sh_wor (by omega) | exact sh_bar (by omega) | exact sh_term (by omega) | exact sh_sheet (by omega) | exact sh_items (by omega) | exact sh_sums (by omega)) rfl ?_
          refine wp_iload_n (pc := 49) dX12_pay_49 (by first | rfl | assumption | (repeat first | assumption | rfl | refine aG_n ?_ rfl rfl)) ?_
          refine wp_iald (pc := 50) dX12_pay_50 (by first | rfl | assumption | exact sh_house (by omega) | exact sh_wish (by omega) | exact sh_wor (by omega) | exact sh_bar (by omega) | exact sh_term (by omega) | exact sh_sheet (by omega) | exact sh_items (by omega) | exact sh_sums (by omega)) (vp_in_nI (by omega) (by decide)) ?_
          refine wp_bipush (pc := 51) (v := -4) dX12_pay_51 (by decide) ?_
          refine wp_icmp_ne (pc := 53) (tgt := 98) dX12_pay_53 rfl (fun _ => ?_) (fun q => absurd q (by rw [ec]; exact c4'))
          refine wp_bipush (pc := 98) (v := -2) dX12_pay_98 (by decide) ?_
          refine wp_ireturn (pc := 100) dX12_pay_100 rfl (by first | rfl | decide | assumption) ?_
          exact k' _ hI
    · skip
      refine wp_aload_n (pc := 0) dX11_pay_0 (by first | rfl | assumption | (repeat first | assumption | rfl | refine aG_n ?_ rfl rfl)) ?_
      refine wp_getR (pc := 1) dX11_pay_1 fl_11_53 (by first | rfl | assumption | exact sh_house (by omega) | exact sh_wish (by omega) | exact sh_wor (by omega) | exact sh_bar (by omega) | exact sh_term (by omega) | exact sh_sheet (by omega) | exact sh_items (by omega) | exact sh_sums (by omega)) rfl ?_
      refine wp_iload_n (pc := 4) dX11_pay_4 (by first | rfl | assumption | (repeat first | assumption | rfl | refine aG_n ?_ rfl rfl)) ?_
      refine wp_cV (pc := 5) dX11_pay_5 lk_11_303 rfl (by decide) rfl (by first | rfl | assumption | exact sh_house (by omega) | exact sh_wish (by omega) | exact sh_wor (by omega) | exact sh_bar (by omega) | exact sh_term (by omega) | exact sh_sheet (by omega) | exact sh_items (by omega) | exact sh_sums (by omega)) rfl rfl (c_X2_hasTerm n1 n2 (fun _ => aK_i ?_) (fun q => absurd c1 q))
      refine wp_if_eq (pc := 8) (tgt := 18) dX11_pay_8 rfl (fun q => absurd q (by decide)) (fun _ => ?_)
      refine wp_iload_n (pc := 11) dX11_pay_11 (by first | rfl | assumption | (repeat first | assumption | rfl | refine aG_n ?_ rfl rfl)) ?_
      refine wp_cS (pc := 12) dX11_pay_12 lk_11_294 rfl rfl rfl (c_X11_isHour (fun q => absurd q c2) (fun _ => aK_i ?_))
      refine wp_if_ne (pc := 15) (tgt := 20) dX11_pay_15 rfl (fun q => absurd q (by decide)) (fun _ => ?_)
      refine wp_iconst (pc := 18) (v := -1) dX11_pay_18 (by decide) ?_
      refine wp_ireturn (pc := 19) dX11_pay_19 rfl (by first | rfl | decide | assumption) ?_
      refine k _ _ (fun Q' k' => ?_)
      refine wp_aload_n (pc := 0) dX12_pay_0 (by first | rfl | assumption | (repeat first | assumption | rfl | refine aG_n ?_ rfl rfl)) ?_
      refine wp_iload_n (pc := 1) dX12_pay_1 (by first | rfl | assumption | (repeat first | assumption | rfl | refine aG_n ?_ rfl rfl)) ?_
      refine wp_cV (pc := 2) dX12_pay_2 lk_12_335 rfl (by decide) rfl (by first | rfl | assumption | exact sh_house (by omega) | exact sh_wish (by omega) | exact sh_wor (by omega) | exact sh_bar (by omega) | exact sh_term (by omega) | exact sh_sheet (by omega) | exact sh_items (by omega) | exact sh_sums (by omega)) rfl rfl (c_X12_isTerm n1 n3 (fun _ => aK_i ?_) (fun q => absurd c1 q))
      refine wp_if_eq (pc := 5) (tgt := 15) dX12_pay_5 rfl (fun q => absurd q (by decide)) (fun _ => ?_)
      refine wp_iload_n (pc := 8) dX12_pay_8 (by first | rfl | assumption | (repeat first | assumption | rfl | refine aG_n ?_ rfl rfl)) ?_
      refine wp_cS (pc := 9) dX12_pay_9 lk_12_326 rfl rfl rfl (c_X12_isHour (fun q => absurd q c2) (fun _ => aK_i ?_))
      refine wp_if_ne (pc := 12) (tgt := 17) dX12_pay_12 rfl (fun q => absurd q (by decide)) (fun _ => ?_)
      refine wp_iconst (pc := 15) (v := -1) dX12_pay_15 (by decide) ?_
      refine wp_ireturn (pc := 16) dX12_pay_16 rfl (by first | rfl | decide | assumption) ?_
      exact k' _ hI
  · skip
    refine wp_aload_n (pc := 0) dX11_pay_0 (by first | rfl | assumption | (repeat first | assumption | rfl | refine aG_n ?_ rfl rfl)) ?_
    refine wp_getR (pc := 1) dX11_pay_1 fl_11_53 (by first | rfl | assumption | exact sh_house (by omega) | exact sh_wish (by omega) | exact sh_wor (by omega) | exact sh_bar (by omega) | exact sh_term (by omega) | exact sh_sheet (by omega) | exact sh_items (by omega) | exact sh_sums (by omega)) rfl ?_
    refine wp_iload_n (pc := 4) dX11_pay_4 (by first | rfl | assumption | (repeat first | assumption | rfl | refine aG_n ?_ rfl rfl)) ?_
    refine wp_cV (pc := 5) dX11_pay_5 lk_11_303 rfl (by decide) rfl (by first | rfl | assumption | exact sh_house (by omega) | exact sh_wish (by omega) | exact sh_wor (by omega) | exact sh_bar (by omega) | exact sh_term (by omega) | exact sh_sheet (by omega) | exact sh_items (by omega) | exact sh_sums (by omega)) rfl rfl (c_X2_hasTerm n1 n2 (fun q => absurd q c1) (fun _ => aK_i ?_))
    refine wp_if_eq (pc := 8) (tgt := 18) dX11_pay_8 rfl (fun _ => ?_) (fun q => absurd q (by decide))
    refine wp_iconst (pc := 18) (v := -1) dX11_pay_18 (by decide) ?_
    refine wp_ireturn (pc := 19) dX11_pay_19 rfl (by first | rfl | decide | assumption) ?_
    refine k _ _ (fun Q' k' => ?_)
    refine wp_aload_n (pc := 0) dX12_pay_0 (by first | rfl | assumption | (repeat first | assumption | rfl | refine aG_n ?_ rfl rfl)) ?_
    refine wp_iload_n (pc := 1) dX12_pay_1 (by first | rfl | assumption | (repeat first | assumption | rfl | refine aG_n ?_ rfl rfl)) ?_
    refine wp_cV (pc := 2) dX12_pay_2 lk_12_335 rfl (by decide) rfl (by first | rfl | assumption | exact sh_house (by omega) | exact sh_wish (by omega) | exact sh_wor (by omega) | exact sh_bar (by omega) | exact sh_term (by omega) | exact sh_sheet (by omega) | exact sh_items (by omega) | exact sh_sums (by omega)) rfl rfl (c_X12_isTerm n1 n3 (fun q => absurd q c1) (fun _ => aK_i ?_))
    refine wp_if_eq (pc := 5) (tgt := 15) dX12_pay_5 rfl (fun _ => ?_) (fun q => absurd q (by decide))
    refine wp_iconst (pc := 15) (v := -1) dX12_pay_15 (by decide) ?_
    refine wp_ireturn (pc := 16) dX12_pay_16 rfl (by first | rfl | decide | assumption) ?_
    exact k' _ hI

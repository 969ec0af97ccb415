theorem J_due (a b c t : Int32) : Jnt mX11_due mX12_due [.int a, .int b, .int c, .int t] := by
  intro X μ Q hI k
  obtain ⟨⟨n, n1, n2, n3, -⟩, -⟩ := id hI.2.2.2.2.2.2.1
  by_cases c1 : inR a 0 3 ∧ inR b 0 3 ∧ a ≠ b ∧ inR c 1 999
  · skip
    by_cases c2 : inR t 0 9999
    · skip
      by_cases h16 : n = 16
      · skip
        refine wp_iload_n (pc := 0) dX11_due_0 (by first | rfl | assumption | (repeat first | assumption | rfl | refine aG_n ?_ rfl rfl)) ?_
        refine wp_iload_n (pc := 1) dX11_due_1 (by first | rfl | assumption | (repeat first | assumption | rfl | refine aG_n ?_ rfl rfl)) ?_
        refine wp_iload_n (pc := 2) dX11_due_2 (by first | rfl | assumption | (repeat first | assumption | rfl | refine aG_n ?_ rfl rfl)) ?_
        refine wp_cS (pc := 3) dX11_due_3 lk_11_291 rfl rfl rfl (c_X11_isDebt (fun _ => aK_i ?_) (fun q => absurd c1 q))
        refine wp_if_eq (pc := 6) (tgt := 17) dX11_due_6 rfl (fun q => absurd q (by decide)) (fun _ => ?_)
        refine wp_iload (pc := 9) dX11_due_9 (by first | rfl | assumption | (repeat first | assumption | rfl | refine aG_n ?_ rfl rfl)) ?_
        refine wp_cS (pc := 11) dX11_due_11 lk_11_294 rfl rfl rfl (c_X11_isHour (fun _ => aK_i ?_) (fun q => absurd c2 q))
        refine wp_if_ne (pc := 14) (tgt := 19) dX11_due_14 rfl (fun _ => ?_) (fun q => absurd q (by decide))
        refine wp_aload_n (pc := 19) dX11_due_19 (by first | rfl | assumption | (repeat first | assumption | rfl | refine aG_n ?_ rfl rfl)) ?_
        refine wp_getR (pc := 20) dX11_due_20 fl_11_53 (by first | rfl | assumption | exact sh_house (by omega) | exact sh_wish (by omega) | exact sh_wor (by omega) | exact sh_bar (by omega) | exact sh_term (by omega) | exact sh_sheet (by omega) | exact sh_items (by omega) | exact sh_sums (by omega)) rfl ?_
        refine wp_iconst (pc := 23) (v := 0) dX11_due_23 (by decide) ?_
        refine wp_iload_n (pc := 24) dX11_due_24 (by first | rfl | assumption | (repeat first | assumption | rfl | refine aG_n ?_ rfl rfl)) ?_
        refine wp_iload_n (pc := 25) dX11_due_25 (by first | rfl | assumption | (repeat first | assumption | rfl | refine aG_n ?_ rfl rfl)) ?_
        refine wp_iload_n (pc := 26) dX11_due_26 (by first | rfl | assumption | (repeat first | assumption | rfl | refine aG_n ?_ rfl rfl)) ?_
        refine wp_iload (pc := 27) dX11_due_27 (by first | rfl | assumption | (repeat first | assumption | rfl | refine aG_n ?_ rfl rfl)) ?_
        refine wp_iconst (pc := 29) (v := 0) dX11_due_29 (by decide) ?_
        refine wp_cV (pc := 30) dX11_due_30 lk_11_297 rfl (by decide) rfl (by first | rfl | assumption | exact sh_house (by omega) | exact sh_wish (by omega) | exact sh_wor (by omega) | exact sh_bar (by omega) | exact sh_term (by omega) | exact sh_sheet (by omega) | exact sh_items (by omega) | exact sh_sums (by omega)) rfl rfl (c_X2_add n1 n2 (fun _ => aK_i ?_) (fun q => absurd q (by omega)))
        refine wp_ireturn (pc := 33) dX11_due_33 rfl (by first | rfl | decide | assumption) ?_
        refine k _ _ (fun Q' k' => ?_)
        refine wp_iload_n (pc := 0) dX12_due_0 (by first | rfl | assumption | (repeat first | assumption | rfl | refine aG_n ?_ rfl rfl)) ?_
        refine wp_iload_n (pc := 1) dX12_due_1 (by first | rfl | assumption | (repeat first | assumption | rfl | refine aG_n ?_ rfl rfl)) ?_
        refine wp_iload_n (pc := 2) dX12_due_2 (by first | rfl | assumption | (repeat first | assumption | rfl | refine aG_n ?_ rfl rfl)) ?_
        refine wp_cS (pc := 3) dX12_due_3 lk_12_322 rfl rfl rfl (c_X12_isDebt (fun _ => aK_i ?_) (fun q => absurd c1 q))
        refine wp_if_eq (pc := 6) (tgt := 31) dX12_due_6 rfl (fun q => absurd q (by decide)) (fun _ => ?_)
        refine wp_iload (pc := 9) dX12_due_9 (by first | rfl | assumption | (repeat first | assumption | rfl | refine aG_n ?_ rfl rfl)) ?_
        refine wp_cS (pc := 11) dX12_due_11 lk_12_326 rfl rfl rfl (c_X12_isHour (fun _ => aK_i ?_) (fun q => absurd c2 q))
        refine wp_if_eq (pc := 14) (tgt := 31) dX12_due_14 rfl (fun q => absurd q (by decide)) (fun _ => ?_)
        refine wp_aload_n (pc := 17) dX12_due_17 (by first | rfl | assumption | (repeat first | assumption | rfl | refine aG_n ?_ rfl rfl)) ?_
        refine wp_iconst (pc := 18) (v := 0) dX12_due_18 (by decide) ?_
        refine wp_iload_n (pc := 19) dX12_due_19 (by first | rfl | assumption | (repeat first | assumption | rfl | refine aG_n ?_ rfl rfl)) ?_
        refine wp_iload_n (pc := 20) dX12_due_20 (by first | rfl | assumption | (repeat first | assumption | rfl | refine aG_n ?_ rfl rfl)) ?_
        refine wp_iload_n (pc := 21) dX12_due_21 (by first | rfl | assumption | (repeat first | assumption | rfl | refine aG_n ?_ rfl rfl)) ?_
        refine wp_iload (pc := 22) dX12_due_22 (by first | rfl | assumption | (repeat first | assumption | rfl | refine aG_n ?_ rfl rfl)) ?_
        refine wp_iconst (pc := 24) (v := 0) dX12_due_24 (by decide) ?_
        refine wp_cV (pc := 25) dX12_due_25 lk_12_329 rfl (by decide) rfl (by first | rfl | assumption | exact sh_house (by omega) | exact sh_wish (by omega) | exact sh_wor (by omega) | exact sh_bar (by omega) | exact sh_term (by omega) | exact sh_sheet (by omega) | exact sh_items (by omega) | exact sh_sums (by omega)) rfl rfl (c_X12_addTerm n1 n3 (fun _ => aK_i ?_) (fun q => absurd q (by omega)))
        refine wp_goto (pc := 28) (tgt := 32) dX12_due_28 rfl ?_
        refine wp_ireturn (pc := 32) dX12_due_32 rfl (by first | rfl | decide | assumption) ?_
        exact k' _ hI
      · skip
        refine wp_iload_n (pc := 0) dX11_due_0 (by first | rfl | assumption | (repeat first | assumption | rfl | refine aG_n ?_ rfl rfl)) ?_
        refine wp_iload_n (pc := 1) dX11_due_1 (by first | rfl | assumption | (repeat first | assumption | rfl | refine aG_n ?_ rfl rfl)) ?_
        refine wp_iload_n (pc := 2) dX11_due_2 (by first | rfl | assumption | (repeat first | assumption | rfl | refine aG_n ?_ rfl rfl)) ?_
        refine wp_cS (pc := 3) dX11_due_3 lk_11_291 rfl rfl rfl (c_X11_isDebt (fun _ => aK_i ?_) (fun q => absurd c1 q))
        refine wp_if_eq (pc := 6) (tgt := 17) dX11_due_6 rfl (fun q => absurd q (by decide)) (fun _ => ?_)
        refine wp_iload (pc := 9) dX11_due_9 (by first | rfl | assumption | (repeat first | assumption | rfl | refine aG_n ?_ rfl rfl)) ?_
        refine wp_cS (pc := 11) dX11_due_11 lk_11_294 rfl rfl rfl (c_X11_isHour (fun _ => aK_i ?_) (fun q => absurd c2 q))
        refine wp_if_ne (pc := 14) (tgt := 19) dX11_due_14 rfl (fun _ => ?_) (fun q => absurd q (by decide))
        refine wp_aload_n (pc := 19) dX11_due_19 (by first | rfl | assumption | (repeat first | assumption | rfl | refine aG_n ?_ rfl rfl)) ?_
        refine wp_getR (pc := 20) dX11_due_20 fl_11_53 (by first | rfl | assumption | exact sh_house (by omega) | exact sh_wish (by omega) | exact sh_wor (by omega) | exact sh_bar (by omega) | exact sh_term (by omega) | exact sh_sheet (by omega) | exact sh_items (by omega) | exact sh_sums (by omega)) rfl ?_
        refine wp_iconst (pc := 23) (v := 0) dX11_due_23 (by decide) ?_
        refine wp_iload_n (pc := 24) dX11_due_24 (by first | rfl | assumption | (repeat first | assumption | rfl | refine aG_n ?_ rfl rfl)) ?_
        refine wp_iload_n (pc := 25) dX11_due_25 (by first | rfl | assumption | (repeat first | assumption | rfl | refine aG_n ?_ rfl rfl)) ?_
        refine wp_iload_n (pc := 26) dX11_due_26 (by first | rfl | assumption | (repeat first | assumption | rfl | refine aG_n ?_ rfl rfl)) ?_
        refine wp_iload (pc := 27) dX11_due_27 (by first | rfl | assumption | (repeat first | assumption | rfl | refine aG_n ?_ rfl rfl)) ?_
        refine wp_iconst (pc := 29) (v := 0) dX11_due_29 (by decide) ?_
        refine wp_cV (pc := 30) dX11_due_30 lk_11_297 rfl (by decide) rfl (by first | rfl | assumption | exact sh_house (by omega) | exact sh_wish (by omega) | exact sh_wor (by omega) | exact sh_bar (by omega) | exact sh_term (by omega) | exact sh_sheet (by omega) | exact sh_items (by omega) | exact sh_sums (by omega)) rfl rfl (c_X2_add n1 n2 (fun q => absurd q h16) (fun _ => aK_i ?_))
        refine wp_ireturn (pc := 33) dX11_due_33 rfl (by first | rfl | decide | assumption) ?_
        refine k _ _ (fun Q' k' => ?_)
        have n4 : ledC μ.1 n (0) (a) (b) (c) (t) (0) 86 37 = nI n := by simp (disch := omega) only [ledC, up2_ne, up2_p]; exact n3
        refine wp_iload_n (pc := 0) dX12_due_0 (by first | rfl | assumption | (repeat first | assumption | rfl | refine aG_n ?_ rfl rfl)) ?_
        refine wp_iload_n (pc := 1) dX12_due_1 (by first | rfl | assumption | (repeat first | assumption | rfl | refine aG_n ?_ rfl rfl)) ?_
        refine wp_iload_n (pc := 2) dX12_due_2 (by first | rfl | assumption | (repeat first | assumption | rfl | refine aG_n ?_ rfl rfl)) ?_
        refine wp_cS (pc := 3) dX12_due_3 lk_12_322 rfl rfl rfl (c_X12_isDebt (fun _ => aK_i ?_) (fun q => absurd c1 q))
        refine wp_if_eq (pc := 6) (tgt := 31) dX12_due_6 rfl (fun q => absurd q (by decide)) (fun _ => ?_)
        refine wp_iload (pc := 9) dX12_due_9 (by first | rfl | assumption | (repeat first | assumption | rfl | refine aG_n ?_ rfl rfl)) ?_
        refine wp_cS (pc := 11) dX12_due_11 lk_12_326 rfl rfl rfl (c_X12_isHour (fun _ => aK_i ?_) (fun q => absurd c2 q))
        refine wp_if_eq (pc := 14) (tgt := 31) dX12_due_14 rfl (fun q => absurd q (by decide)) (fun _ => ?_)
        refine wp_aload_n (pc := 17) dX12_due_17 (by first | rfl | assumption | (repeat first | assumption | rfl | refine aG_n ?_ rfl rfl)) ?_
        refine wp_iconst (pc := 18) (v := 0) dX12_due_18 (by decide) ?_
        refine wp_iload_n (pc := 19) dX12_due_19 (by first | rfl | assumption | (repeat first | assumption | rfl | refine aG_n ?_ rfl rfl)) ?_
        refine wp_iload_n (pc := 20) dX12_due_20 (by first | rfl | assumption | (repeat first | assumption | rfl | refine aG_n ?_ rfl rfl)) ?_
        refine wp_iload_n (pc := 21) dX12_due_21 (by first | rfl | assumption | (repeat first | assumption | rfl | refine aG_n ?_ rfl rfl)) ?_
        refine wp_iload (pc := 22) dX12_due_22 (by first | rfl | assumption | (repeat first | assumption | rfl | refine aG_n ?_ rfl rfl)) ?_
        refine wp_iconst (pc := 24) (v := 0) dX12_due_24 (by decide) ?_
        refine wp_cV (pc := 25) dX12_due_25 lk_12_329 rfl (by decide) rfl (by first | rfl | assumption | exact sh_house (by omega) | exact sh_wish (by omega) | exact sh_wor (by omega) | exact sh_bar (by omega) | exact sh_term (by omega) | exact sh_sheet (by omega) | exact sh_items (by omega) | exact sh_sums (by omega)) rfl rfl (c_X12_addTerm n1 n4 (fun q => absurd q h16) (fun _ => aK_i ?_))
        refine wp_goto (pc := 28) (tgt := 32) dX12_due_28 rfl ?_
        refine wp_ireturn (pc := 32) dX12_due_32 rfl (by first | rfl | decide | assumption) ?_
        refine k' _ ?_
        have hL := led_add (kd := 0) (a := a) (b := b) (c := c) (ab := t) (wi := 0) hI.2.2.2.2.2.2.1 n3 (by omega) (by unfold inR; decide) c1.1 c1.2.1 ⟨by have := c1.2.2.2.1; omega, c1.2.2.2.2⟩ (fun _ => c2) (fun q => absurd q (by decide)) (fun q => absurd q (by decide)) (by unfold inR; decide)
        simp only [ledM, ledC] at hL ⊢
        exact ⟨own_c (by simp (disch := omega) only [up2_ne, fil_ne]) (fun i9 hi9 => (by simp (disch := omega) only [up2_ne, up2_p, fil_ne, fil_p])) (hI.1), coin_c (by simp (disch := omega) only [up2_ne, fil_ne]) (fun i9 hi9 => (by simp (disch := omega) only [up2_ne, up2_p, fil_ne, fil_p])) (hI.2.1), lev_c ⟨(by simp (disch := omega) only [up2_ne, fil_ne]), (by simp (disch := omega) only [up2_ne, fil_ne]), (by simp (disch := omega) only [up2_ne, fil_ne])⟩ (fun i9 hi9 => ⟨(by simp (disch := omega) only [up2_ne, up2_p, fil_ne, fil_p]), (by simp (disch := omega) only [up2_ne, up2_p, fil_ne, fil_p]), (by simp (disch := omega) only [up2_ne, up2_p, fil_ne, fil_p])⟩) (hI.2.2.1), wish_c ⟨(by simp (disch := omega) only [up2_ne, fil_ne]), (by simp (disch := omega) only [up2_ne, fil_ne]), (by simp (disch := omega) only [up2_ne, fil_ne]), (by simp (disch := omega) only [up2_ne, fil_ne])⟩ (fun i9 hi9 => ⟨(by simp (disch := omega) only [up2_ne, fil_ne]), (by simp (disch := omega) only [up2_ne, fil_ne]), (by simp (disch := omega) only [up2_ne, fil_ne])⟩) (hI.2.2.2.1), tape_c (by simp (disch := omega) only [up2_ne, up2_p, fil_ne, fil_p]) (by simp (disch := omega) only [up2_ne, up2_p, fil_ne, fil_p]) (by simp (disch := omega) only [up2_ne, fil_ne]) (by simp (disch := omega) only [up2_ne, fil_ne]) (hI.2.2.2.2.1), talk_c ⟨(by simp (disch := omega) only [up2_ne, fil_ne]), (by simp (disch := omega) only [up2_ne, fil_ne]), (by simp (disch := omega) only [up2_ne, fil_ne]), (by simp (disch := omega) only [up2_ne, fil_ne]), (by simp (disch := omega) only [up2_ne, fil_ne])⟩ ⟨(by simp (disch := omega) only [up2_ne, fil_ne]), (by simp (disch := omega) only [up2_ne, fil_ne]), (by simp (disch := omega) only [up2_ne, fil_ne])⟩ (fun j9 hj9 hk9 => (by simp (disch := omega) only [up2_ne, up2_p, fil_ne, fil_p])) (fun o9 => ⟨(by simp (disch := omega) only [up2_ne, fil_ne]), (by simp (disch := omega) only [up2_ne, fil_ne])⟩) rfl (hI.2.2.2.2.2.1), hL, row_c (by simp (disch := omega) only [up2_ne, fil_ne]) (by simp (disch := omega) only [up2_ne, fil_ne]) (hI.2.2.2.2.2.2.2.1), sheet_c ⟨(by simp (disch := omega) only [up2_ne, fil_ne]), (by simp (disch := omega) only [up2_ne, fil_ne]), (by simp (disch := omega) only [up2_ne, fil_ne])⟩ (fun s9 hs9 => ⟨(by simp (disch := omega) only [up2_ne, fil_ne]), (by simp (disch := omega) only [up2_ne, fil_ne])⟩) (hI.2.2.2.2.2.2.2.2.1), grp_c (by simp (disch := omega) only [up2_ne, up2_p, fil_ne, fil_p]) (fun g9 hg9 => (by simp (disch := omega) only [up2_ne, fil_ne])) (fun i9 hi9 => ⟨(by simp (disch := omega) only [up2_ne, fil_ne]), (by simp (disch := omega) only [up2_ne, fil_ne])⟩) (hI.2.2.2.2.2.2.2.2.2)⟩
    · skip
      refine wp_iload_n (pc := 0) dX11_due_0 (by first | rfl | assumption | (repeat first | assumption | rfl | refine aG_n ?_ rfl rfl)) ?_
      refine wp_iload_n (pc := 1) dX11_due_1 (by first | rfl | assumption | (repeat first | assumption | rfl | refine aG_n ?_ rfl rfl)) ?_
      refine wp_iload_n (pc := 2) dX11_due_2 (by first | rfl | assumption | (repeat first | assumption | rfl | refine aG_n ?_ rfl rfl)) ?_
      refine wp_cS (pc := 3) dX11_due_3 lk_11_291 rfl rfl rfl (c_X11_isDebt (fun _ => aK_i ?_) (fun q => absurd c1 q))
      refine wp_if_eq (pc := 6) (tgt := 17) dX11_due_6 rfl (fun q => absurd q (by decide)) (fun _ => ?_)
      refine wp_iload (pc := 9) dX11_due_9 (by first | rfl | assumption | (repeat first | assumption | rfl | refine aG_n ?_ rfl rfl)) ?_
      refine wp_cS (pc := 11) dX11_due_11 lk_11_294 rfl rfl rfl (c_X11_isHour (fun q => absurd q c2) (fun _ => aK_i ?_))
      refine wp_if_ne (pc := 14) (tgt := 19) dX11_due_14 rfl (fun q => absurd q (by decide)) (fun _ => ?_)
      refine wp_iconst (pc := 17) (v := -1) dX11_due_17 (by decide) ?_
      refine wp_ireturn (pc := 18) dX11_due_18 rfl (by first | rfl | decide | assumption) ?_
      refine k _ _ (fun Q' k' => ?_)
      refine wp_iload_n (pc := 0) dX12_due_0 (by first | rfl | assumption | (repeat first | assumption | rfl | refine aG_n ?_ rfl rfl)) ?_
      refine wp_iload_n (pc := 1) dX12_due_1 (by first | rfl | assumption | (repeat first | assumption | rfl | refine aG_n ?_ rfl rfl)) ?_
      refine wp_iload_n (pc := 2) dX12_due_2 (by first | rfl | assumption | (repeat first | assumption | rfl | refine aG_n ?_ rfl rfl)) ?_
      refine wp_cS (pc := 3) dX12_due_3 lk_12_322 rfl rfl rfl (c_X12_isDebt (fun _ => aK_i ?_) (fun q => absurd c1 q))
      refine wp_if_eq (pc := 6) (tgt := 31) dX12_due_6 rfl (fun q => absurd q (by decide)) (fun _ => ?_)
      refine wp_iload (pc := 9) dX12_due_9 (by first | rfl | assumption | (repeat first | assumption | rfl | refine aG_n ?_ rfl rfl)) ?_
      refine wp_cS (pc := 11) dX12_due_11 lk_12_326 rfl rfl rfl (c_X12_isHour (fun q => absurd q c2) (fun _ => aK_i ?_))
      refine wp_if_eq (pc := 14) (tgt := 31) dX12_due_14 rfl (fun _ => ?_) (fun q => absurd q (by decide))
      refine wp_iconst (pc := 31) (v := -1) dX12_due_31 (by decide) ?_
      refine wp_ireturn (pc := 32) dX12_due_32 rfl (by first | rfl | decide | assumption) ?_
      exact k' _ hI
  · skip
    refine wp_iload_n (pc := 0) dX11_due_0 (by first | rfl | assumption | (repeat first | assumption | rfl | refine aG_n ?_ rfl rfl)) ?_
    refine wp_iload_n (pc := 1) dX11_due_1 (by first | rfl | assumption | (repeat first | assumption | rfl | refine aG_n ?_ rfl rfl)) ?_
    refine wp_iload_n (pc := 2) dX11_due_2 (by first | rfl | assumption | (repeat first | assumption | rfl | refine aG_n ?_ rfl rfl)) ?_
    refine wp_cS (pc := 3) dX11_due_3 lk_11_291 rfl rfl rfl (c_X11_isDebt (fun q => absurd q c1) (fun _ => aK_i ?_))
    refine wp_if_eq (pc := 6) (tgt := 17) dX11_due_6 rfl (fun _ => ?_) (fun q => absurd q (by decide))
    refine wp_iconst (pc := 17) (v := -1) dX11_due_17 (by decide) ?_
    refine wp_ireturn (pc := 18) dX11_due_18 rfl (by first | rfl | decide | assumption) ?_
    refine k _ _ (fun Q' k' => ?_)
    refine wp_iload_n (pc := 0) dX12_due_0 (by first | rfl | assumption | (repeat first | assumption | rfl | refine aG_n ?_ rfl rfl)) ?_
    refine wp_iload_n (pc := 1) dX12_due_1 (by first | rfl | assumption | (repeat first | assumption | rfl | refine aG_n ?_ rfl rfl)) ?_
    refine wp_iload_n (pc := 2) dX12_due_2 (by first | rfl | assumption | (repeat first | assumption | rfl | refine aG_n ?_ rfl rfl)) ?_
    refine wp_cS (pc := 3) dX12_due_3 lk_12_322 rfl rfl rfl (c_X12_isDebt (fun q => absurd q c1) (fun _ => aK_i ?_))
    refine wp_if_eq (pc := 6) (tgt := 31) dX12_due_6 rfl (fun _ => ?_) (fun q => absurd q (by decide))
    refine wp_iconst (pc := 31) (v := -1) dX12_due_31 (by decide) ?_
    refine wp_ireturn (pc := 32) dX12_due_32 rfl (by first | rfl | decide | assumption) ?_
    exact k' _ hI
theorem J_when (a b c t w : Int32) : Jnt mX11_when mX12_when [.int a, .int b, .int c, .int t, .int w] := by
  intro X μ Q hI k
  obtain ⟨⟨n, n1, n2, n3, -⟩, -⟩ := id hI.2.2.2.2.2.2.1
  by_cases c1 : inR a 0 3 ∧ inR b 0 3 ∧ a ≠ b ∧ inR c 1 999
  · skip
    by_cases c2 : inR t 0 9
    · skip
      by_cases c3 : inR w 0 999
      · skip
        by_cases h16 : n = 16
        · skip
          refine wp_iload_n (pc := 0) dX11_when_0 (by first | rfl | assumption | (repeat first | assumption | rfl | refine aG_n ?_ rfl rfl)) ?_
          refine wp_iload_n (pc := 1) dX11_when_1 (by first | rfl | assumption | (repeat first | assumption | rfl | refine aG_n ?_ rfl rfl)) ?_
          refine wp_iload_n (pc := 2) dX11_when_2 (by first | rfl | assumption | (repeat first | assumption | rfl | refine aG_n ?_ rfl rfl)) ?_
          refine wp_cS (pc := 3) dX11_when_3 lk_11_291 rfl rfl rfl (c_X11_isDebt (fun _ => aK_i ?_) (fun q => absurd c1 q))
          refine wp_if_eq (pc := 6) (tgt := 29) dX11_when_6 rfl (fun q => absurd q (by decide)) (fun _ => ?_)
          refine wp_iload (pc := 9) dX11_when_9 (by first | rfl | assumption | (repeat first | assumption | rfl | refine aG_n ?_ rfl rfl)) ?_
          refine wp_cS (pc := 11) dX11_when_11 lk_11_300 rfl rfl rfl (c_X11_isEvent (fun _ => aK_i ?_) (fun q => absurd c2 q))
          refine wp_if_eq (pc := 14) (tgt := 29) dX11_when_14 rfl (fun q => absurd q (by decide)) (fun _ => ?_)
          refine wp_iload (pc := 17) dX11_when_17 (by first | rfl | assumption | (repeat first | assumption | rfl | refine aG_n ?_ rfl rfl)) ?_
          refine wp_iconst (pc := 19) (v := 0) dX11_when_19 (by decide) ?_
          refine wp_sipush (pc := 20) (v := 999) dX11_when_20 (by decide) ?_
          refine wp_cS (pc := 23) dX11_when_23 lk_11_112 rfl rfl rfl (c_X11_isWithin (fun _ => aK_i ?_) (fun q => absurd c3 q))
          refine wp_if_ne (pc := 26) (tgt := 31) dX11_when_26 rfl (fun _ => ?_) (fun q => absurd q (by decide))
          refine wp_aload_n (pc := 31) dX11_when_31 (by first | rfl | assumption | (repeat first | assumption | rfl | refine aG_n ?_ rfl rfl)) ?_
          refine wp_getR (pc := 32) dX11_when_32 fl_11_53 (by first | rfl | assumption | exact sh_house (by omega) | exact sh_wish (by omega) | exact sh_wor (by omega) | exact sh_bar (by omega) | exact sh_term (by omega) | exact sh_sheet (by omega) | exact sh_items (by omega) | exact sh_sums (by omega)) rfl ?_
          refine wp_iconst (pc := 35) (v := 1) dX11_when_35 (by decide) ?_
          refine wp_iload_n (pc := 36) dX11_when_36 (by first | rfl | assumption | (repeat first | assumption | rfl | refine aG_n ?_ rfl rfl)) ?_
          refine wp_iload_n (pc := 37) dX11_when_37 (by first | rfl | assumption | (repeat first | assumption | rfl | refine aG_n ?_ rfl rfl)) ?_
          refine wp_iload_n (pc := 38) dX11_when_38 (by first | rfl | assumption | (repeat first | assumption | rfl | refine aG_n ?_ rfl rfl)) ?_
          refine wp_iload (pc := 39) dX11_when_39 (by first | rfl | assumption | (repeat first | assumption | rfl | refine aG_n ?_ rfl rfl)) ?_
          refine wp_iload (pc := 41) dX11_when_41 (by first | rfl | assumption | (repeat first | assumption | rfl | refine aG_n ?_ rfl rfl)) ?_
          refine wp_cV (pc := 43) dX11_when_43 lk_11_297 rfl (by decide) rfl (by first | rfl | assumption | exact sh_house (by omega) | exact sh_wish (by omega) | exact sh_wor (by omega) | exact sh_bar (by omega) | exact sh_term (by omega) | exact sh_sheet (by omega) | exact sh_items (by omega) | exact sh_sums (by omega)) rfl rfl (c_X2_add n1 n2 (fun _ => aK_i ?_) (fun q => absurd q (by omega)))
          refine wp_ireturn (pc := 46) dX11_when_46 rfl (by first | rfl | decide | assumption) ?_
          refine k _ _ (fun Q' k' => ?_)
          refine wp_iload_n (pc := 0) dX12_when_0 (by first | rfl | assumption | (repeat first | assumption | rfl | refine aG_n ?_ rfl rfl)) ?_
          refine wp_iload_n (pc := 1) dX12_when_1 (by first | rfl | assumption | (repeat first | assumption | rfl | refine aG_n ?_ rfl rfl)) ?_
          refine wp_iload_n (pc := 2) dX12_when_2 (by first | rfl | assumption | (repeat first | assumption | rfl | refine aG_n ?_ rfl rfl)) ?_
          refine wp_cS (pc := 3) dX12_when_3 lk_12_322 rfl rfl rfl (c_X12_isDebt (fun _ => aK_i ?_) (fun q => absurd c1 q))
          refine wp_if_eq (pc := 6) (tgt := 50) dX12_when_6 rfl (fun q => absurd q (by decide)) (fun _ => ?_)
          refine wp_iload (pc := 9) dX12_when_9 (by first | rfl | assumption | (repeat first | assumption | rfl | refine aG_n ?_ rfl rfl)) ?_
          refine wp_i2l (pc := 11) dX12_when_11 ?_
          refine wp_lconst (pc := 12) (v := 0) dX12_when_12 (by decide) ?_
          refine wp_ldc2 (pc := 13) dX12_when_13 cl_12_333 ?_
          refine wp_cS (pc := 16) dX12_when_16 lk_12_133 rfl rfl rfl (c_X12_in (fun _ => aK_i ?_) (fun q => absurd (by rw [w_int]; exact c2) q))
          refine wp_if_eq (pc := 19) (tgt := 50) dX12_when_19 rfl (fun q => absurd q (by decide)) (fun _ => ?_)
          refine wp_iload (pc := 22) dX12_when_22 (by first | rfl | assumption | (repeat first | assumption | rfl | refine aG_n ?_ rfl rfl)) ?_
          refine wp_i2l (pc := 24) dX12_when_24 ?_
          refine wp_lconst (pc := 25) (v := 0) dX12_when_25 (by decide) ?_
          refine wp_ldc2 (pc := 26) dX12_when_26 cl_12_216 ?_
          refine wp_cS (pc := 29) dX12_when_29 lk_12_133 rfl rfl rfl (c_X12_in (fun _ => aK_i ?_) (fun q => absurd (by rw [w_int]; exact c3) q))
          refine wp_if_eq (pc := 32) (tgt := 50) dX12_when_32 rfl (fun q => absurd q (by decide)) (fun _ => ?_)
          refine wp_aload_n (pc := 35) dX12_when_35 (by first | rfl | assumption | (repeat first | assumption | rfl | refine aG_n ?_ rfl rfl)) ?_
          refine wp_iconst (pc := 36) (v := 1) dX12_when_36 (by decide) ?_
          refine wp_iload_n (pc := 37) dX12_when_37 (by first | rfl | assumption | (repeat first | assumption | rfl | refine aG_n ?_ rfl rfl)) ?_
          refine wp_iload_n (pc := 38) dX12_when_38 (by first | rfl | assumption | (repeat first | assumption | rfl | refine aG_n ?_ rfl rfl)) ?_
          refine wp_iload_n (pc := 39) dX12_when_39 (by first | rfl | assumption | (repeat first | assumption | rfl | refine aG_n ?_ rfl rfl)) ?_
          refine wp_iload (pc := 40) dX12_when_40 (by first | rfl | assumption | (repeat first | assumption | rfl | refine aG_n ?_ rfl rfl)) ?_
          refine wp_iload (pc := 42) dX12_when_42 (by first | rfl | assumption | (repeat first | assumption | rfl | refine aG_n ?_ rfl rfl)) ?_
          refine wp_cV (pc := 44) dX12_when_44 lk_12_329 rfl (by decide) rfl (by first | rfl | assumption | exact sh_house (by omega) | exact sh_wish (by omega) | exact sh_wor (by omega) | exact sh_bar (by omega) | exact sh_term (by omega) | exact sh_sheet (by omega) | exact sh_items (by omega) | exact sh_sums (by omega)) rfl rfl (c_X12_addTerm n1 n3 (fun _ => aK_i ?_) (fun q => absurd q (by omega)))
          refine wp_goto (pc := 47) (tgt := 51) dX12_when_47 rfl ?_
          refine wp_ireturn (pc := 51) dX12_when_51 rfl (by first | rfl | decide | assumption) ?_
          exact k' _ hI
        · skip
          refine wp_iload_n (pc := 0) dX11_when_0 (by first | rfl | assumption | (repeat first | assumption | rfl | refine aG_n ?_ rfl rfl)) ?_
          refine wp_iload_n (pc := 1) dX11_when_1 (by first | rfl | assumption | (repeat first | assumption | rfl | refine aG_n ?_ rfl rfl)) ?_
          refine wp_iload_n (pc := 2) dX11_when_2 (by first | rfl | assumption | (repeat first | assumption | rfl | refine aG_n ?_ rfl rfl)) ?_
          refine wp_cS (pc := 3) dX11_when_3 lk_11_291 rfl rfl rfl (c_X11_isDebt (fun _ => aK_i ?_) (fun q => absurd c1 q))
          refine wp_if_eq (pc := 6) (tgt := 29) dX11_when_6 rfl (fun q => absurd q (by decide)) (fun _ => ?_)
          refine wp_iload (pc := 9) dX11_when_9 (by first | rfl | assumption | (repeat first | assumption | rfl | refine aG_n ?_ rfl rfl)) ?_
          refine wp_cS (pc := 11) dX11_when_11 lk_11_300 rfl rfl rfl (c_X11_isEvent (fun _ => aK_i ?_) (fun q => absurd c2 q))
          refine wp_if_eq (pc := 14) (tgt := 29) dX11_when_14 rfl (fun q => absurd q (by decide)) (fun _ => ?_)
          refine wp_iload (pc := 17) dX11_when_17 (by first | rfl | assumption | (repeat first | assumption | rfl | refine aG_n ?_ rfl rfl)) ?_
          refine wp_iconst (pc := 19) (v := 0) dX11_when_19 (by decide) ?_
          refine wp_sipush (pc := 20) (v := 999) dX11_when_20 (by decide) ?_
          refine wp_cS (pc := 23) dX11_when_23 lk_11_112 rfl rfl rfl (c_X11_isWithin (fun _ => aK_i ?_) (fun q => absurd c3 q))
          refine wp_if_ne (pc := 26) (tgt := 31) dX11_when_26 rfl (fun _ => ?_) (fun q => absurd q (by decide))
          refine wp_aload_n (pc := 31) dX11_when_31 (by first | rfl | assumption | (repeat first | assumption | rfl | refine aG_n ?_ rfl rfl)) ?_
          refine wp_getR (pc := 32) dX11_when_32 fl_11_53 (by first | rfl | assumption | exact sh_house (by omega) | exact sh_wish (by omega) | exact sh_wor (by omega) | exact sh_bar (by omega) | exact sh_term (by omega) | exact sh_sheet (by omega) | exact sh_items (by omega) | exact sh_sums (by omega)) rfl ?_
          refine wp_iconst (pc := 35) (v := 1) dX11_when_35 (by decide) ?_
          refine wp_iload_n (pc := 36) dX11_when_36 (by first | rfl | assumption | (repeat first | assumption | rfl | refine aG_n ?_ rfl rfl)) ?_
          refine wp_iload_n (pc := 37) dX11_when_37 (by first | rfl | assumption | (repeat first | assumption | rfl | refine aG_n ?_ rfl rfl)) ?_
          refine wp_iload_n (pc := 38) dX11_when_38 (by first | rfl | assumption | (repeat first | assumption | rfl | refine aG_n ?_ rfl rfl)) ?_
          refine wp_iload (pc := 39) dX11_when_39 (by first | rfl | assumption | (repeat first | assumption | rfl | refine aG_n ?_ rfl rfl)) ?_
          refine wp_iload (pc := 41) dX11_when_41 (by first | rfl | assumption | (repeat first | assumption | rfl | refine aG_n ?_ rfl rfl)) ?_
          refine wp_cV (pc := 43) dX11_when_43 lk_11_297 rfl (by decide) rfl (by first | rfl | assumption | exact sh_house (by omega) | exact sh_wish (by omega) | exact sh_wor (by omega) | exact sh_bar (by omega) | exact sh_term (by omega) | exact sh_sheet (by omega) | exact sh_items (by omega) | exact sh_sums (by omega)) rfl rfl (c_X2_add n1 n2 (fun q => absurd q h16) (fun _ => aK_i ?_))
          refine wp_ireturn (pc := 46) dX11_when_46 rfl (by first | rfl | decide | assumption) ?_
          refine k _ _ (fun Q' k' => ?_)
          have n4 : ledC μ.1 n (1) (a) (b) (c) (t) (w) 86 37 = nI n := by simp (disch := omega) only [ledC, up2_ne, up2_p]; exact n3
          refine wp_iload_n (pc := 0) dX12_when_0 (by first | rfl | assumption | (repeat first | assumption | rfl | refine aG_n ?_ rfl rfl)) ?_
          refine wp_iload_n (pc := 1) dX12_when_1 (by first | rfl | assumption | (repeat first | assumption | rfl | refine aG_n ?_ rfl rfl)) ?_
          refine wp_iload_n (pc := 2) dX12_when_2 (by first | rfl | assumption | (repeat first | assumption | rfl | refine aG_n ?_ rfl rfl)) ?_
          refine wp_cS (pc := 3) dX12_when_3 lk_12_322 rfl rfl rfl (c_X12_isDebt (fun _ => aK_i ?_) (fun q => absurd c1 q))
          refine wp_if_eq (pc := 6) (tgt := 50) dX12_when_6 rfl (fun q => absurd q (by decide)) (fun _ => ?_)
          refine wp_iload (pc := 9) dX12_when_9 (by first | rfl | assumption | (repeat first | assumption | rfl | refine aG_n ?_ rfl rfl)) ?_
          refine wp_i2l (pc := 11) dX12_when_11 ?_
          refine wp_lconst (pc := 12) (v := 0) dX12_when_12 (by decide) ?_
          refine wp_ldc2 (pc := 13) dX12_when_13 cl_12_333 ?_
          refine wp_cS (pc := 16) dX12_when_16 lk_12_133 rfl rfl rfl (c_X12_in (fun _ => aK_i ?_) (fun q => absurd (by rw [w_int]; exact c2) q))
          refine wp_if_eq (pc := 19) (tgt := 50) dX12_when_19 rfl (fun q => absurd q (by decide)) (fun _ => ?_)
          refine wp_iload (pc := 22) dX12_when_22 (by first | rfl | assumption | (repeat first | assumption | rfl | refine aG_n ?_ rfl rfl)) ?_
          refine wp_i2l (pc := 24) dX12_when_24 ?_
          refine wp_lconst (pc := 25) (v := 0) dX12_when_25 (by decide) ?_
          refine wp_ldc2 (pc := 26) dX12_when_26 cl_12_216 ?_
          refine wp_cS (pc := 29) dX12_when_29 lk_12_133 rfl rfl rfl (c_X12_in (fun _ => aK_i ?_) (fun q => absurd (by rw [w_int]; exact c3) q))
          refine wp_if_eq (pc := 32) (tgt := 50) dX12_when_32 rfl (fun q => absurd q (by decide)) (fun _ => ?_)
          refine wp_aload_n (pc := 35) dX12_when_35 (by first | rfl | assumption | (repeat first | assumption | rfl | refine aG_n ?_ rfl rfl)) ?_
          refine wp_iconst (pc := 36) (v := 1) dX12_when_36 (by decide) ?_
          refine wp_iload_n (pc := 37) dX12_when_37 (by first | rfl | assumption | (repeat first | assumption | rfl | refine aG_n ?_ rfl rfl)) ?_
          refine wp_iload_n (pc := 38) dX12_when_38 (by first | rfl | assumption | (repeat first | assumption | rfl | refine aG_n ?_ rfl rfl)) ?_
          refine wp_iload_n (pc := 39) dX12_when_39 (by first | rfl | assumption | (repeat first | assumption | rfl | refine aG_n ?_ rfl rfl)) ?_
          refine wp_iload (pc := 40) dX12_when_40 (by first | rfl | assumption | (repeat first | assumption | rfl | refine aG_n ?_ rfl rfl)) ?_
          refine wp_iload (pc := 42) dX12_when_42 (by first | rfl | assumption | (repeat first | assumption | rfl | refine aG_n ?_ rfl rfl)) ?_
          refine wp_cV (pc := 44) dX12_when_44 lk_12_329 rfl (by decide) rfl (by first | rfl | assumption | exact sh_house (by omega) | exact sh_wish (by omega) | exact sh_wor (by omega) | exact sh_bar (by omega) | exact sh_term (by omega) | exact sh_sheet (by omega) | exact sh_items (by omega) | exact sh_sums (by omega)) rfl rfl (c_X12_addTerm n1 n4 (fun q => absurd q h16) (fun _ => aK_i ?_))
          refine wp_goto (pc := 47) (tgt := 51) dX12_when_47 rfl ?_
          refine wp_ireturn (pc := 51) dX12_when_51 rfl (by first | rfl | decide | assumption) ?_
          refine k' _ ?_
          have hL := led_add (kd := 1) (a := a) (b := b) (c := c) (ab := t) (wi := w) hI.2.2.2.2.2.2.1 n3 (by omega) (by unfold inR; decide) c1.1 c1.2.1 ⟨by have := c1.2.2.2.1; omega, c1.2.2.2.2⟩ (fun q => absurd q (by decide)) (fun _ => c2) (fun q => absurd q (by decide)) c3
          simp only [ledM, ledC] at hL ⊢
          exact ⟨own_c (by simp (disch := omega) only [up2_ne, fil_ne]) (fun i9 hi9 => (by simp (disch := omega) only [up2_ne, up2_p, fil_ne, fil_p])) (hI.1), coin_c (by simp (disch := omega) only [up2_ne, fil_ne]) (fun i9 hi9 => (by simp (disch := omega) only [up2_ne, up2_p, fil_ne, fil_p])) (hI.2.1), lev_c ⟨(by simp (disch := omega) only [up2_ne, fil_ne]), (by simp (disch := omega) only [up2_ne, fil_ne]), (by simp (disch := omega) only [up2_ne, fil_ne])⟩ (fun i9 hi9 => ⟨(by simp (disch := omega) only [up2_ne, up2_p, fil_ne, fil_p]), (by simp (disch := omega) only [up2_ne, up2_p, fil_ne, fil_p]), (by simp (disch := omega) only [up2_ne, up2_p, fil_ne, fil_p])⟩) (hI.2.2.1), wish_c ⟨(by simp (disch := omega) only [up2_ne, fil_ne]), (by simp (disch := omega) only [up2_ne, fil_ne]), (by simp (disch := omega) only [up2_ne, fil_ne]), (by simp (disch := omega) only [up2_ne, fil_ne])⟩ (fun i9 hi9 => ⟨(by simp (disch := omega) only [up2_ne, fil_ne]), (by simp (disch := omega) only [up2_ne, fil_ne]), (by simp (disch := omega) only [up2_ne, fil_ne])⟩) (hI.2.2.2.1), tape_c (by simp (disch := omega) only [up2_ne, up2_p, fil_ne, fil_p]) (by simp (disch := omega) only [up2_ne, up2_p, fil_ne, fil_p]) (by simp (disch := omega) only [up2_ne, fil_ne]) (by simp (disch := omega) only [up2_ne, fil_ne]) (hI.2.2.2.2.1), talk_c ⟨(by simp (disch := omega) only [up2_ne, fil_ne]), (by simp (disch := omega) only [up2_ne, fil_ne]), (by simp (disch := omega) only [up2_ne, fil_ne]), (by simp (disch := omega) only [up2_ne, fil_ne]), (by simp (disch := omega) only [up2_ne, fil_ne])⟩ ⟨(by simp (disch := omega) only [up2_ne, fil_ne]), (by simp (disch := omega) only [up2_ne, fil_ne]), (by simp (disch := omega) only [up2_ne, fil_ne])⟩ (fun j9 hj9 hk9 => (by simp (disch := omega) only [up2_ne, up2_p, fil_ne, fil_p])) (fun o9 => ⟨(by simp (disch := omega) only [up2_ne, fil_ne]), (by simp (disch := omega) only [up2_ne, fil_ne])⟩) rfl (hI.2.2.2.2.2.1), hL, row_c (by simp (disch := omega) only [up2_ne, fil_ne]) (by simp (disch := omega) only [up2_ne, fil_ne]) (hI.2.2.2.2.2.2.2.1), sheet_c ⟨(by simp (disch := omega) only [up2_ne, fil_ne]), (by simp (disch := omega) only [up2_ne, fil_ne]), (by simp (disch := omega) only [up2_ne, fil_ne])⟩ (fun s9 hs9 => ⟨(by simp (disch := omega) only [up2_ne, fil_ne]), (by simp (disch := omega) only [up2_ne, fil_ne])⟩) (hI.2.2.2.2.2.2.2.2.1), grp_c (by simp (disch := omega) only [up2_ne, up2_p, fil_ne, fil_p]) (fun g9 hg9 => (by simp (disch := omega) only [up2_ne, fil_ne])) (fun i9 hi9 => ⟨(by simp (disch := omega) only [up2_ne, fil_ne]), (by simp (disch := omega) only [up2_ne, fil_ne])⟩) (hI.2.2.2.2.2.2.2.2.2)⟩
      · skip
        refine wp_iload_n (pc := 0) dX11_when_0 (by first | rfl | assumption | (repeat first | assumption | rfl | refine aG_n ?_ rfl rfl)) ?_
        refine wp_iload_n (pc := 1) dX11_when_1 (by first | rfl | assumption | (repeat first | assumption | rfl | refine aG_n ?_ rfl rfl)) ?_
        refine wp_iload_n (pc := 2) dX11_when_2 (by first | rfl | assumption | (repeat first | assumption | rfl | refine aG_n ?_ rfl rfl)) ?_
        refine wp_cS (pc := 3) dX11_when_3 lk_11_291 rfl rfl rfl (c_X11_isDebt (fun _ => aK_i ?_) (fun q => absurd c1 q))
        refine wp_if_eq (pc := 6) (tgt := 29) dX11_when_6 rfl (fun q => absurd q (by decide)) (fun _ => ?_)
        refine wp_iload (pc := 9) dX11_when_9 (by first | rfl | assumption | (repeat first | assumption | rfl | refine aG_n ?_ rfl rfl)) ?_
        refine wp_cS (pc := 11) dX11_when_11 lk_11_300 rfl rfl rfl (c_X11_isEvent (fun _ => aK_i ?_) (fun q => absurd c2 q))
        refine wp_if_eq (pc := 14) (tgt := 29) dX11_when_14 rfl (fun q => absurd q (by decide)) (fun _ => ?_)
        refine wp_iload (pc := 17) dX11_when_17 (by first | rfl | assumption | (repeat first | assumption | rfl | refine aG_n ?_ rfl rfl)) ?_
        refine wp_iconst (pc := 19) (v := 0) dX11_when_19 (by decide) ?_
        refine wp_sipush (pc := 20) (v := 999) dX11_when_20 (by decide) ?_
        refine wp_cS (pc := 23) dX11_when_23 lk_11_112 rfl rfl rfl (c_X11_isWithin (fun q => absurd q c3) (fun _ => aK_i ?_))
        refine wp_if_ne (pc := 26) (tgt := 31) dX11_when_26 rfl (fun q => absurd q (by decide)) (fun _ => ?_)
        refine wp_iconst (pc := 29) (v := -1) dX11_when_29 (by decide) ?_
        refine wp_ireturn (pc := 30) dX11_when_30 rfl (by first | rfl | decide | assumption) ?_
        refine k _ _ (fun Q' k' => ?_)
        refine wp_iload_n (pc := 0) dX12_when_0 (by first | rfl | assumption | (repeat first | assumption | rfl | refine aG_n ?_ rfl rfl)) ?_
        refine wp_iload_n (pc := 1) dX12_when_1 (by first | rfl | assumption | (repeat first | assumption | rfl | refine aG_n ?_ rfl rfl)) ?_
        refine wp_iload_n (pc := 2) dX12_when_2 (by first | rfl | assumption | (repeat first | assumption | rfl | refine aG_n ?_ rfl rfl)) ?_
        refine wp_cS (pc := 3) dX12_when_3 lk_12_322 rfl rfl rfl (c_X12_isDebt (fun _ => aK_i ?_) (fun q => absurd c1 q))
        refine wp_if_eq (pc := 6) (tgt := 50) dX12_when_6 rfl (fun q => absurd q (by decide)) (fun _ => ?_)
        refine wp_iload (pc := 9) dX12_when_9 (by first | rfl | assumption | (repeat first | assumption | rfl | refine aG_n ?_ rfl rfl)) ?_
        refine wp_i2l (pc := 11) dX12_when_11 ?_
        refine wp_lconst (pc := 12) (v := 0) dX12_when_12 (by decide) ?_
        refine wp_ldc2 (pc := 13) dX12_when_13 cl_12_333 ?_
        refine wp_cS (pc := 16) dX12_when_16 lk_12_133 rfl rfl rfl (c_X12_in (fun _ => aK_i ?_) (fun q => absurd (by rw [w_int]; exact c2) q))
        refine wp_if_eq (pc := 19) (tgt := 50) dX12_when_19 rfl (fun q => absurd q (by decide)) (fun _ => ?_)
        refine wp_iload (pc := 22) dX12_when_22 (by first | rfl | assumption | (repeat first | assumption | rfl | refine aG_n ?_ rfl rfl)) ?_
        refine wp_i2l (pc := 24) dX12_when_24 ?_
        refine wp_lconst (pc := 25) (v := 0) dX12_when_25 (by decide) ?_
        refine wp_ldc2 (pc := 26) dX12_when_26 cl_12_216 ?_
        refine wp_cS (pc := 29) dX12_when_29 lk_12_133 rfl rfl rfl (c_X12_in (fun q => absurd q (by rw [w_int]; exact c3)) (fun _ => aK_i ?_))
        refine wp_if_eq (pc := 32) (tgt := 50) dX12_when_32 rfl (fun _ => ?_) (fun q => absurd q (by decide))
        refine wp_iconst (pc := 50) (v := -1) dX12_when_50 (by decide) ?_
        refine wp_ireturn (pc := 51) dX12_when_51 rfl (by first | rfl | decide | assumption) ?_
        exact k' _ hI
    · skip
      refine wp_iload_n (pc := 0) dX11_when_0 (by first | rfl | assumption | (repeat first | assumption | rfl | refine aG_n ?_ rfl rfl)) ?_
      refine wp_iload_n (pc := 1) dX11_when_1 (by first | rfl | assumption | (repeat first | assumption | rfl | refine aG_n ?_ rfl rfl)) ?_
      refine wp_iload_n (pc := 2) dX11_when_2 (by first | rfl | assumption | (repeat first | assumption | rfl | refine aG_n ?_ rfl rfl)) ?_
      refine wp_cS (pc := 3) dX11_when_3 lk_11_291 rfl rfl rfl (c_X11_isDebt (fun _ => aK_i ?_) (fun q => absurd c1 q))
      refine wp_if_eq (pc := 6) (tgt := 29) dX11_when_6 rfl (fun q => absurd q (by decide)) (fun _ => ?_)
      refine wp_iload (pc := 9) dX11_when_9 (by first | rfl | assumption | (repeat first | assumption | rfl | refine aG_n ?_ rfl rfl)) ?_
      refine wp_cS (pc := 11) dX11_when_11 lk_11_300 rfl rfl rfl (c_X11_isEvent (fun q => absurd q c2) (fun _ => aK_i ?_))
      refine wp_if_eq (pc := 14) (tgt := 29) dX11_when_14 rfl (fun _ => ?_) (fun q => absurd q (by decide))
      refine wp_iconst (pc := 29) (v := -1) dX11_when_29 (by decide) ?_
      refine wp_ireturn (pc := 30) dX11_when_30 rfl (by first | rfl | decide | assumption) ?_
      refine k _ _ (fun Q' k' => ?_)
      refine wp_iload_n (pc := 0) dX12_when_0 (by first | rfl | assumption | (repeat first | assumption | rfl | refine aG_n ?_ rfl rfl)) ?_
      refine wp_iload_n (pc := 1) dX12_when_1 (by first | rfl | assumption | (repeat first | assumption | rfl | refine aG_n ?_ rfl rfl)) ?_
      refine wp_iload_n (pc := 2) dX12_when_2 (by first | rfl | assumption | (repeat first | assumption | rfl | refine aG_n ?_ rfl rfl)) ?_
      refine wp_cS (pc := 3) dX12_when_3 lk_12_322 rfl rfl rfl (c_X12_isDebt (fun _ => aK_i ?_) (fun q => absurd c1 q))
      refine wp_if_eq (pc := 6) (tgt := 50) dX12_when_6 rfl (fun q => absurd q (by decide)) (fun _ => ?_)
      refine wp_iload (pc := 9) dX12_when_9 (by first | rfl | assumption | (repeat first | assumption | rfl | refine aG_n ?_ rfl rfl)) ?_
      refine wp_i2l (pc := 11) dX12_when_11 ?_
      refine wp_lconst (pc := 12) (v := 0) dX12_when_12 (by decide) ?_
      refine wp_ldc2 (pc := 13) dX12_when_13 cl_12_333 ?_
      refine wp_cS (pc := 16) dX12_when_16 lk_12_133 rfl rfl rfl (c_X12_in (fun q => absurd q (by rw [w_int]; exact c2)) (fun _ => aK_i ?_))
      refine wp_if_eq (pc := 19) (tgt := 50) dX12_when_19 rfl (fun _ => ?_) (fun q => absurd q (by decide))
      refine wp_iconst (pc := 50) (v := -1) dX12_when_50 (by decide) ?_
      refine wp_ireturn (pc := 51) dX12_when_51 rfl (by first | rfl | decide | assumption) ?_
      exact k' _ hI
  · skip
    refine wp_iload_n (pc := 0) dX11_when_0 (by first | rfl | assumption | (repeat first | assumption | rfl | refine aG_n ?_ rfl rfl)) ?_
    refine wp_iload_n (pc := 1) dX11_when_1 (by first | rfl | assumption | (repeat first | assumption | rfl | refine aG_n ?_ rfl rfl)) ?_
    refine wp_iload_n (pc := 2) dX11_when_2 (by first | rfl | assumption | (repeat first | assumption | rfl | refine aG_n ?_ rfl rfl)) ?_
    refine wp_cS (pc := 3) dX11_when_3 lk_11_291 rfl rfl rfl (c_X11_isDebt (fun q => absurd q c1) (fun _ => aK_i ?_))
    refine wp_if_eq (pc := 6) (tgt := 29) dX11_when_6 rfl (fun _ => ?_) (fun q => absurd q (by decide))
    refine wp_iconst (pc := 29) (v := -1) dX11_when_29 (by decide) ?_
    refine wp_ireturn (pc := 30) dX11_when_30 rfl (by first | rfl | decide | assumption) ?_
    refine k _ _ (fun Q' k' => ?_)
    refine wp_iload_n (pc := 0) dX12_when_0 (by first | rfl | assumption | (repeat first | assumption | rfl | refine aG_n ?_ rfl rfl)) ?_
    refine wp_iload_n (pc := 1) dX12_when_1 (by first | rfl | assumption | (repeat first | assumption | rfl | refine aG_n ?_ rfl rfl)) ?_
    refine wp_iload_n (pc := 2) dX12_when_2 (by first | rfl | assumption | (repeat first | assumption | rfl | refine aG_n ?_ rfl rfl)) ?_
    refine wp_cS (pc := 3) dX12_when_3 lk_12_322 rfl rfl rfl (c_X12_isDebt (fun q => absurd q c1) (fun _ => aK_i ?_))
    refine wp_if_eq (pc := 6) (tgt := 50) dX12_when_6 rfl (fun _ => ?_) (fun q => absurd q (by decide))
    refine wp_iconst (pc := 50) (v := -1) dX12_when_50 (by decide) ?_
    refine wp_ireturn (pc := 51) dX12_when_51 rfl (by first | rfl | decide | assumption) ?_
    exact k' _ hI
theorem J_bar (a t : Int32) : Jnt mX11_bar mX12_bar [.int a, .int t] := by
  intro X μ Q hI k
  obtain ⟨⟨n, n1, n2, n3, -⟩, -⟩ := id hI.2.2.2.2.2.2.1
  by_cases c1 : inR a 0 3
  · skip
    by_cases c2 : inR t 0 9
    · skip
      by_cases h16 : n = 16
      · skip
        refine wp_iload_n (pc := 0) dX11_bar_0 (by first | rfl | assumption | (repeat first | assumption | rfl | refine aG_n ?_ rfl rfl)) ?_
        refine wp_cS (pc := 1) dX11_bar_1 lk_11_101 rfl rfl rfl (c_X11_isHouse (fun _ => aK_i ?_) (fun q => absurd c1 q))
        refine wp_if_eq (pc := 4) (tgt := 14) dX11_bar_4 rfl (fun q => absurd q (by decide)) (fun _ => ?_)
        refine wp_iload_n (pc := 7) dX11_bar_7 (by first | rfl | assumption | (repeat first | assumption | rfl | refine aG_n ?_ rfl rfl)) ?_
        refine wp_cS (pc := 8) dX11_bar_8 lk_11_300 rfl rfl rfl (c_X11_isEvent (fun _ => aK_i ?_) (fun q => absurd c2 q))
        refine wp_if_ne (pc := 11) (tgt := 16) dX11_bar_11 rfl (fun _ => ?_) (fun q => absurd q (by decide))
        refine wp_aload_n (pc := 16) dX11_bar_16 (by first | rfl | assumption | (repeat first | assumption | rfl | refine aG_n ?_ rfl rfl)) ?_
        refine wp_getR (pc := 17) dX11_bar_17 fl_11_53 (by first | rfl | assumption | exact sh_house (by omega) | exact sh_wish (by omega) | exact sh_wor (by omega) | exact sh_bar (by omega) | exact sh_term (by omega) | exact sh_sheet (by omega) | exact sh_items (by omega) | exact sh_sums (by omega)) rfl ?_
        refine wp_iconst (pc := 20) (v := 3) dX11_bar_20 (by decide) ?_
        refine wp_iload_n (pc := 21) dX11_bar_21 (by first | rfl | assumption | (repeat first | assumption | rfl | refine aG_n ?_ rfl rfl)) ?_
        refine wp_iload_n (pc := 22) dX11_bar_22 (by first | rfl | assumption | (repeat first | assumption | rfl | refine aG_n ?_ rfl rfl)) ?_
        refine wp_iconst (pc := 23) (v := 0) dX11_bar_23 (by decide) ?_
        refine wp_iload_n (pc := 24) dX11_bar_24 (by first | rfl | assumption | (repeat first | assumption | rfl | refine aG_n ?_ rfl rfl)) ?_
        refine wp_iconst (pc := 25) (v := 0) dX11_bar_25 (by decide) ?_
        refine wp_cV (pc := 26) dX11_bar_26 lk_11_297 rfl (by decide) rfl (by first | rfl | assumption | exact sh_house (by omega) | exact sh_wish (by omega) | exact sh_wor (by omega) | exact sh_bar (by omega) | exact sh_term (by omega) | exact sh_sheet (by omega) | exact sh_items (by omega) | exact sh_sums (by omega)) rfl rfl (c_X2_add n1 n2 (fun _ => aK_i ?_) (fun q => absurd q (by omega)))
        refine wp_ireturn (pc := 29) dX11_bar_29 rfl (by first | rfl | decide | assumption) ?_
        refine k _ _ (fun Q' k' => ?_)
        refine wp_iload_n (pc := 0) dX12_bar_0 (by first | rfl | assumption | (repeat first | assumption | rfl | refine aG_n ?_ rfl rfl)) ?_
        refine wp_cS (pc := 1) dX12_bar_1 lk_12_143 rfl rfl rfl (c_X12_isHouse (fun _ => aK_i ?_) (fun q => absurd c1 q))
        refine wp_if_eq (pc := 4) (tgt := 32) dX12_bar_4 rfl (fun q => absurd q (by decide)) (fun _ => ?_)
        refine wp_iload_n (pc := 7) dX12_bar_7 (by first | rfl | assumption | (repeat first | assumption | rfl | refine aG_n ?_ rfl rfl)) ?_
        refine wp_i2l (pc := 8) dX12_bar_8 ?_
        refine wp_lconst (pc := 9) (v := 0) dX12_bar_9 (by decide) ?_
        refine wp_ldc2 (pc := 10) dX12_bar_10 cl_12_333 ?_
        refine wp_cS (pc := 13) dX12_bar_13 lk_12_133 rfl rfl rfl (c_X12_in (fun _ => aK_i ?_) (fun q => absurd (by rw [w_int]; exact c2) q))
        refine wp_if_eq (pc := 16) (tgt := 32) dX12_bar_16 rfl (fun q => absurd q (by decide)) (fun _ => ?_)
        refine wp_aload_n (pc := 19) dX12_bar_19 (by first | rfl | assumption | (repeat first | assumption | rfl | refine aG_n ?_ rfl rfl)) ?_
        refine wp_iconst (pc := 20) (v := 3) dX12_bar_20 (by decide) ?_
        refine wp_iload_n (pc := 21) dX12_bar_21 (by first | rfl | assumption | (repeat first | assumption | rfl | refine aG_n ?_ rfl rfl)) ?_
        refine wp_iload_n (pc := 22) dX12_bar_22 (by first | rfl | assumption | (repeat first | assumption | rfl | refine aG_n ?_ rfl rfl)) ?_
        refine wp_iconst (pc := 23) (v := 0) dX12_bar_23 (by decide) ?_
        refine wp_iload_n (pc := 24) dX12_bar_24 (by first | rfl | assumption | (repeat first | assumption | rfl | refine aG_n ?_ rfl rfl)) ?_
        refine wp_iconst (pc := 25) (v := 0) dX12_bar_25 (by decide) ?_
        refine wp_cV (pc := 26) dX12_bar_26 lk_12_329 rfl (by decide) rfl (by first | rfl | assumption | exact sh_house (by omega) | exact sh_wish (by omega) | exact sh_wor (by omega) | exact sh_bar (by omega) | exact sh_term (by omega) | exact sh_sheet (by omega) | exact sh_items (by omega) | exact sh_sums (by omega)) rfl rfl (c_X12_addTerm n1 n3 (fun _ => aK_i ?_) (fun q => absurd q (by omega)))
        refine wp_goto (pc := 29) (tgt := 33) dX12_bar_29 rfl ?_
        refine wp_ireturn (pc := 33) dX12_bar_33 rfl (by first | rfl | decide | assumption) ?_
        exact k' _ hI
      · skip
        refine wp_iload_n (pc := 0) dX11_bar_0 (by first | rfl | assumption | (repeat first | assumption | rfl | refine aG_n ?_ rfl rfl)) ?_
        refine wp_cS (pc := 1) dX11_bar_1 lk_11_101 rfl rfl rfl (c_X11_isHouse (fun _ => aK_i ?_) (fun q => absurd c1 q))
        refine wp_if_eq (pc := 4) (tgt := 14) dX11_bar_4 rfl (fun q => absurd q (by decide)) (fun _ => ?_)
        refine wp_iload_n (pc := 7) dX11_bar_7 (by first | rfl | assumption | (repeat first | assumption | rfl | refine aG_n ?_ rfl rfl)) ?_
        refine wp_cS (pc := 8) dX11_bar_8 lk_11_300 rfl rfl rfl (c_X11_isEvent (fun _ => aK_i ?_) (fun q => absurd c2 q))
        refine wp_if_ne (pc := 11) (tgt := 16) dX11_bar_11 rfl (fun _ => ?_) (fun q => absurd q (by decide))
        refine wp_aload_n (pc := 16) dX11_bar_16 (by first | rfl | assumption | (repeat first | assumption | rfl | refine aG_n ?_ rfl rfl)) ?_
        refine wp_getR (pc := 17) dX11_bar_17 fl_11_53 (by first | rfl | assumption | exact sh_house (by omega) | exact sh_wish (by omega) | exact sh_wor (by omega) | exact sh_bar (by omega) | exact sh_term (by omega) | exact sh_sheet (by omega) | exact sh_items (by omega) | exact sh_sums (by omega)) rfl ?_
        refine wp_iconst (pc := 20) (v := 3) dX11_bar_20 (by decide) ?_
        refine wp_iload_n (pc := 21) dX11_bar_21 (by first | rfl | assumption | (repeat first | assumption | rfl | refine aG_n ?_ rfl rfl)) ?_
        refine wp_iload_n (pc := 22) dX11_bar_22 (by first | rfl | assumption | (repeat first | assumption | rfl | refine aG_n ?_ rfl rfl)) ?_
        refine wp_iconst (pc := 23) (v := 0) dX11_bar_23 (by decide) ?_
        refine wp_iload_n (pc := 24) dX11_bar_24 (by first | rfl | assumption | (repeat first | assumption | rfl | refine aG_n ?_ rfl rfl)) ?_
        refine wp_iconst (pc := 25) (v := 0) dX11_bar_25 (by decide) ?_
        refine wp_cV (pc := 26) dX11_bar_26 lk_11_297 rfl (by decide) rfl (by first | rfl | assumption | exact sh_house (by omega) | exact sh_wish (by omega) | exact sh_wor (by omega) | exact sh_bar (by omega) | exact sh_term (by omega) | exact sh_sheet (by omega) | exact sh_items (by omega) | exact sh_sums (by omega)) rfl rfl (c_X2_add n1 n2 (fun q => absurd q h16) (fun _ => aK_i ?_))
        refine wp_ireturn (pc := 29) dX11_bar_29 rfl (by first | rfl | decide | assumption) ?_
        refine k _ _ (fun Q' k' => ?_)
        have n4 : ledC μ.1 n (3) (a) (a) (0) (t) (0) 86 37 = nI n := by simp (disch := omega) only [ledC, up2_ne, up2_p]; exact n3
        refine wp_iload_n (pc := 0) dX12_bar_0 (by first | rfl | assumption | (repeat first | assumption | rfl | refine aG_n ?_ rfl rfl)) ?_
        refine wp_cS (pc := 1) dX12_bar_1 lk_12_143 rfl rfl rfl (c_X12_isHouse (fun _ => aK_i ?_) (fun q => absurd c1 q))
        refine wp_if_eq (pc := 4) (tgt := 32) dX12_bar_4 rfl (fun q => absurd q (by decide)) (fun _ => ?_)
        refine wp_iload_n (pc := 7) dX12_bar_7 (by first | rfl | assumption | (repeat first | assumption | rfl | refine aG_n ?_ rfl rfl)) ?_
        refine wp_i2l (pc := 8) dX12_bar_8 ?_
        refine wp_lconst (pc := 9) (v := 0) dX12_bar_9 (by decide) ?_
        refine wp_ldc2 (pc := 10) dX12_bar_10 cl_12_333 ?_
        refine wp_cS (pc := 13) dX12_bar_13 lk_12_133 rfl rfl rfl (c_X12_in (fun _ => aK_i ?_) (fun q => absurd (by rw [w_int]; exact c2) q))
        refine wp_if_eq (pc := 16) (tgt := 32) dX12_bar_16 rfl (fun q => absurd q (by decide)) (fun _ => ?_)
        refine wp_aload_n (pc := 19) dX12_bar_19 (by first | rfl | assumption | (repeat first | assumption | rfl | refine aG_n ?_ rfl rfl)) ?_
        refine wp_iconst (pc := 20) (v := 3) dX12_bar_20 (by decide) ?_
        refine wp_iload_n (pc := 21) dX12_bar_21 (by first | rfl | assumption | (repeat first | assumption | rfl | refine aG_n ?_ rfl rfl)) ?_
        refine wp_iload_n (pc := 22) dX12_bar_22 (by first | rfl | assumption | (repeat first | assumption | rfl | refine aG_n ?_ rfl rfl)) ?_
        refine wp_iconst (pc := 23) (v := 0) dX12_bar_23 (by decide) ?_
        refine wp_iload_n (pc := 24) dX12_bar_24 (by first | rfl | assumption | (repeat first | assumption | rfl | refine aG_n ?_ rfl rfl)) ?_
        refine wp_iconst (pc := 25) (v := 0) dX12_bar_25 (by decide) ?_
        refine wp_cV (pc := 26) dX12_bar_26 lk_12_329 rfl (by decide) rfl (by first | rfl | assumption | exact sh_house (by omega) | exact sh_wish (by omega) | exact sh_wor (by omega) | exact sh_bar (by omega) | exact sh_term (by omega) | exact sh_sheet (by omega) | exact sh_items (by omega) | exact sh_sums (by omega)) rfl rfl (c_X12_addTerm n1 n4 (fun q => absurd q h16) (fun _ => aK_i ?_))
        refine wp_goto (pc := 29) (tgt := 33) dX12_bar_29 rfl ?_
        refine wp_ireturn (pc := 33) dX12_bar_33 rfl (by first | rfl | decide | assumption) ?_
        refine k' _ ?_
        have hL := led_add (kd := 3) (a := a) (b := a) (c := 0) (ab := t) (wi := 0) hI.2.2.2.2.2.2.1 n3 (by omega) (by unfold inR; decide) c1 c1 (by unfold inR; decide) (fun q => absurd q (by decide)) (fun _ => c2) (fun q => absurd q (by decide)) (by unfold inR; decide)
        simp only [ledM, ledC] at hL ⊢
        exact ⟨own_c (by simp (disch := omega) only [up2_ne, fil_ne]) (fun i9 hi9 => (by simp (disch := omega) only [up2_ne, up2_p, fil_ne, fil_p])) (hI.1), coin_c (by simp (disch := omega) only [up2_ne, fil_ne]) (fun i9 hi9 => (by simp (disch := omega) only [up2_ne, up2_p, fil_ne, fil_p])) (hI.2.1), lev_c ⟨(by simp (disch := omega) only [up2_ne, fil_ne]), (by simp (disch := omega) only [up2_ne, fil_ne]), (by simp (disch := omega) only [up2_ne, fil_ne])⟩ (fun i9 hi9 => ⟨(by simp (disch := omega) only [up2_ne, up2_p, fil_ne, fil_p]), (by simp (disch := omega) only [up2_ne, up2_p, fil_ne, fil_p]), (by simp (disch := omega) only [up2_ne, up2_p, fil_ne, fil_p])⟩) (hI.2.2.1), wish_c ⟨(by simp (disch := omega) only [up2_ne, fil_ne]), (by simp (disch := omega) only [up2_ne, fil_ne]), (by simp (disch := omega) only [up2_ne, fil_ne]), (by simp (disch := omega) only [up2_ne, fil_ne])⟩ (fun i9 hi9 => ⟨(by simp (disch := omega) only [up2_ne, fil_ne]), (by simp (disch := omega) only [up2_ne, fil_ne]), (by simp (disch := omega) only [up2_ne, fil_ne])⟩) (hI.2.2.2.1), tape_c (by simp (disch := omega) only [up2_ne, up2_p, fil_ne, fil_p]) (by simp (disch := omega) only [up2_ne, up2_p, fil_ne, fil_p]) (by simp (disch := omega) only [up2_ne, fil_ne]) (by simp (disch := omega) only [up2_ne, fil_ne]) (hI.2.2.2.2.1), talk_c ⟨(by simp (disch := omega) only [up2_ne, fil_ne]), (by simp (disch := omega) only [up2_ne, fil_ne]), (by simp (disch := omega) only [up2_ne, fil_ne]), (by simp (disch := omega) only [up2_ne, fil_ne]), (by simp (disch := omega) only [up2_ne, fil_ne])⟩ ⟨(by simp (disch := omega) only [up2_ne, fil_ne]), (by simp (disch := omega) only [up2_ne, fil_ne]), (by simp (disch := omega) only [up2_ne, fil_ne])⟩ (fun j9 hj9 hk9 => (by simp (disch := omega) only [up2_ne, up2_p, fil_ne, fil_p])) (fun o9 => ⟨(by simp (disch := omega) only [up2_ne, fil_ne]), (by simp (disch := omega) only [up2_ne, fil_ne])⟩) rfl (hI.2.2.2.2.2.1), hL, row_c (by simp (disch := omega) only [up2_ne, fil_ne]) (by simp (disch := omega) only [up2_ne, fil_ne]) (hI.2.2.2.2.2.2.2.1), sheet_c ⟨(by simp (disch := omega) only [up2_ne, fil_ne]), (by simp (disch := omega) only [up2_ne, fil_ne]), (by simp (disch := omega) only [up2_ne, fil_ne])⟩ (fun s9 hs9 => ⟨(by simp (disch := omega) only [up2_ne, fil_ne]), (by simp (disch := omega) only [up2_ne, fil_ne])⟩) (hI.2.2.2.2.2.2.2.2.1), grp_c (by simp (disch := omega) only [up2_ne, up2_p, fil_ne, fil_p]) (fun g9 hg9 => (by simp (disch := omega) only [up2_ne, fil_ne])) (fun i9 hi9 => ⟨(by simp (disch := omega) only [up2_ne, fil_ne]), (by simp (disch := omega) only [up2_ne, fil_ne])⟩) (hI.2.2.2.2.2.2.2.2.2)⟩
    · skip
      refine wp_iload_n (pc := 0) dX11_bar_0 (by first | rfl | assumption | (repeat first | assumption | rfl | refine aG_n ?_ rfl rfl)) ?_
      refine wp_cS (pc := 1) dX11_bar_1 lk_11_101 rfl rfl rfl (c_X11_isHouse (fun _ => aK_i ?_) (fun q => absurd c1 q))
      refine wp_if_eq (pc := 4) (tgt := 14) dX11_bar_4 rfl (fun q => absurd q (by decide)) (fun _ => ?_)
      refine wp_iload_n (pc := 7) dX11_bar_7 (by first | rfl | assumption | (repeat first | assumption | rfl | refine aG_n ?_ rfl rfl)) ?_
      refine wp_cS (pc := 8) dX11_bar_8 lk_11_300 rfl rfl rfl (c_X11_isEvent (fun q => absurd q c2) (fun _ => aK_i ?_))
      refine wp_if_ne (pc := 11) (tgt := 16) dX11_bar_11 rfl (fun q => absurd q (by decide)) (fun _ => ?_)
      refine wp_iconst (pc := 14) (v := -1) dX11_bar_14 (by decide) ?_
      refine wp_ireturn (pc := 15) dX11_bar_15 rfl (by first | rfl | decide | assumption) ?_
      refine k _ _ (fun Q' k' => ?_)
      refine wp_iload_n (pc := 0) dX12_bar_0 (by first | rfl | assumption | (repeat first | assumption | rfl | refine aG_n ?_ rfl rfl)) ?_
      refine wp_cS (pc := 1) dX12_bar_1 lk_12_143 rfl rfl rfl (c_X12_isHouse (fun _ => aK_i ?_) (fun q => absurd c1 q))
      refine wp_if_eq (pc := 4) (tgt := 32) dX12_bar_4 rfl (fun q => absurd q (by decide)) (fun _ => ?_)
      refine wp_iload_n (pc := 7) dX12_bar_7 (by first | rfl | assumption | (repeat first | assumption | rfl | refine aG_n ?_ rfl rfl)) ?_
      refine wp_i2l (pc := 8) dX12_bar_8 ?_
      refine wp_lconst (pc := 9) (v := 0) dX12_bar_9 (by decide) ?_
      refine wp_ldc2 (pc := 10) dX12_bar_10 cl_12_333 ?_
      refine wp_cS (pc := 13) dX12_bar_13 lk_12_133 rfl rfl rfl (c_X12_in (fun q => absurd q (by rw [w_int]; exact c2)) (fun _ => aK_i ?_))
      refine wp_if_eq (pc := 16) (tgt := 32) dX12_bar_16 rfl (fun _ => ?_) (fun q => absurd q (by decide))
      refine wp_iconst (pc := 32) (v := -1) dX12_bar_32 (by decide) ?_
      refine wp_ireturn (pc := 33) dX12_bar_33 rfl (by first | rfl | decide | assumption) ?_
      exact k' _ hI
  · skip
    refine wp_iload_n (pc := 0) dX11_bar_0 (by first | rfl | assumption | (repeat first | assumption | rfl | refine aG_n ?_ rfl rfl)) ?_
    refine wp_cS (pc := 1) dX11_bar_1 lk_11_101 rfl rfl rfl (c_X11_isHouse (fun q => absurd q c1) (fun _ => aK_i ?_))
    refine wp_if_eq (pc := 4) (tgt := 14) dX11_bar_4 rfl (fun _ => ?_) (fun q => absurd q (by decide))
    refine wp_iconst (pc := 14) (v := -1) dX11_bar_14 (by decide) ?_
    refine wp_ireturn (pc := 15) dX11_bar_15 rfl (by first | rfl | decide | assumption) ?_
    refine k _ _ (fun Q' k' => ?_)
    refine wp_iload_n (pc := 0) dX12_bar_0 (by first | rfl | assumption | (repeat first | assumption | rfl | refine aG_n ?_ rfl rfl)) ?_
    refine wp_cS (pc := 1) dX12_bar_1 lk_12_143 rfl rfl rfl (c_X12_isHouse (fun q => absurd q c1) (fun _ => aK_i ?_))
    refine wp_if_eq (pc := 4) (tgt := 32) dX12_bar_4 rfl (fun _ => ?_) (fun q => absurd q (by decide))
    refine wp_iconst (pc := 32) (v := -1) dX12_bar_32 (by decide) ?_
    refine wp_ireturn (pc := 33) dX12_bar_33 rfl (by first | rfl | decide | assumption) ?_
    exact k' _ hI
theorem J_mend (a b c t w : Int32) : Jnt mX11_mend mX12_mend [.int a, .int b, .int c, .int t, .int w] := by
  intro X μ Q hI k
  obtain ⟨⟨n, n1, n2, n3, -⟩, -⟩ := id hI.2.2.2.2.2.2.1
  by_cases c1 : inR a 0 3 ∧ inR b 0 3 ∧ a ≠ b ∧ inR c 1 999
  · skip
    by_cases c2 : inT t n
    · skip
      by_cases c3 : inR w 0 999
      · skip
        by_cases h16 : n = 16
        · skip
          refine wp_iload_n (pc := 0) dX11_mend_0 (by first | rfl | assumption | (repeat first | assumption | rfl | refine aG_n ?_ rfl rfl)) ?_
          refine wp_iload_n (pc := 1) dX11_mend_1 (by first | rfl | assumption | (repeat first | assumption | rfl | refine aG_n ?_ rfl rfl)) ?_
          refine wp_iload_n (pc := 2) dX11_mend_2 (by first | rfl | assumption | (repeat first | assumption | rfl | refine aG_n ?_ rfl rfl)) ?_
          refine wp_cS (pc := 3) dX11_mend_3 lk_11_291 rfl rfl rfl (c_X11_isDebt (fun _ => aK_i ?_) (fun q => absurd c1 q))
          refine wp_if_eq (pc := 6) (tgt := 33) dX11_mend_6 rfl (fun q => absurd q (by decide)) (fun _ => ?_)
          refine wp_aload_n (pc := 9) dX11_mend_9 (by first | rfl | assumption | (repeat first | assumption | rfl | refine aG_n ?_ rfl rfl)) ?_
          refine wp_getR (pc := 10) dX11_mend_10 fl_11_53 (by first | rfl | assumption | exact sh_house (by omega) | exact sh_wish (by omega) | exact sh_wor (by omega) | exact sh_bar (by omega) | exact sh_term (by omega) | exact sh_sheet (by omega) | exact sh_items (by omega) | exact sh_sums (by omega)) rfl ?_
          refine wp_iload (pc := 13) dX11_mend_13 (by first | rfl | assumption | (repeat first | assumption | rfl | refine aG_n ?_ rfl rfl)) ?_
          refine wp_cV (pc := 15) dX11_mend_15 lk_11_303 rfl (by decide) rfl (by first | rfl | assumption | exact sh_house (by omega) | exact sh_wish (by omega) | exact sh_wor (by omega) | exact sh_bar (by omega) | exact sh_term (by omega) | exact sh_sheet (by omega) | exact sh_items (by omega) | exact sh_sums (by omega)) rfl rfl (c_X2_hasTerm n1 n2 (fun _ => aK_i ?_) (fun q => absurd c2 q))
          refine wp_if_eq (pc := 18) (tgt := 33) dX11_mend_18 rfl (fun q => absurd q (by decide)) (fun _ => ?_)
          refine wp_iload (pc := 21) dX11_mend_21 (by first | rfl | assumption | (repeat first | assumption | rfl | refine aG_n ?_ rfl rfl)) ?_
          refine wp_iconst (pc := 23) (v := 0) dX11_mend_23 (by decide) ?_
          refine wp_sipush (pc := 24) (v := 999) dX11_mend_24 (by decide) ?_
          refine wp_cS (pc := 27) dX11_mend_27 lk_11_112 rfl rfl rfl (c_X11_isWithin (fun _ => aK_i ?_) (fun q => absurd c3 q))
          refine wp_if_ne (pc := 30) (tgt := 35) dX11_mend_30 rfl (fun _ => ?_) (fun q => absurd q (by decide))
          refine wp_aload_n (pc := 35) dX11_mend_35 (by first | rfl | assumption | (repeat first | assumption | rfl | refine aG_n ?_ rfl rfl)) ?_
          refine wp_getR (pc := 36) dX11_mend_36 fl_11_53 (by first | rfl | assumption | exact sh_house (by omega) | exact sh_wish (by omega) | exact sh_wor (by omega) | exact sh_bar (by omega) | exact sh_term (by omega) | exact sh_sheet (by omega) | exact sh_items (by omega) | exact sh_sums (by omega)) rfl ?_
          refine wp_iconst (pc := 39) (v := 2) dX11_mend_39 (by decide) ?_
          refine wp_iload_n (pc := 40) dX11_mend_40 (by first | rfl | assumption | (repeat first | assumption | rfl | refine aG_n ?_ rfl rfl)) ?_
          refine wp_iload_n (pc := 41) dX11_mend_41 (by first | rfl | assumption | (repeat first | assumption | rfl | refine aG_n ?_ rfl rfl)) ?_
          refine wp_iload_n (pc := 42) dX11_mend_42 (by first | rfl | assumption | (repeat first | assumption | rfl | refine aG_n ?_ rfl rfl)) ?_
          refine wp_iload (pc := 43) dX11_mend_43 (by first | rfl | assumption | (repeat first | assumption | rfl | refine aG_n ?_ rfl rfl)) ?_
          refine wp_iload (pc := 45) dX11_mend_45 (by first | rfl | assumption | (repeat first | assumption | rfl | refine aG_n ?_ rfl rfl)) ?_
          refine wp_cV (pc := 47) dX11_mend_47 lk_11_297 rfl (by decide) rfl (by first | rfl | assumption | exact sh_house (by omega) | exact sh_wish (by omega) | exact sh_wor (by omega) | exact sh_bar (by omega) | exact sh_term (by omega) | exact sh_sheet (by omega) | exact sh_items (by omega) | exact sh_sums (by omega)) rfl rfl (c_X2_add n1 n2 (fun _ => aK_i ?_) (fun q => absurd q (by omega)))
          refine wp_ireturn (pc := 50) dX11_mend_50 rfl (by first | rfl | decide | assumption) ?_
          refine k _ _ (fun Q' k' => ?_)
          refine wp_iload_n (pc := 0) dX12_mend_0 (by first | rfl | assumption | (repeat first | assumption | rfl | refine aG_n ?_ rfl rfl)) ?_
          refine wp_iload_n (pc := 1) dX12_mend_1 (by first | rfl | assumption | (repeat first | assumption | rfl | refine aG_n ?_ rfl rfl)) ?_
          refine wp_iload_n (pc := 2) dX12_mend_2 (by first | rfl | assumption | (repeat first | assumption | rfl | refine aG_n ?_ rfl rfl)) ?_
          refine wp_cS (pc := 3) dX12_mend_3 lk_12_322 rfl rfl rfl (c_X12_isDebt (fun _ => aK_i ?_) (fun q => absurd c1 q))
          refine wp_if_eq (pc := 6) (tgt := 54) dX12_mend_6 rfl (fun q => absurd q (by decide)) (fun _ => ?_)
          refine wp_iload (pc := 9) dX12_mend_9 (by first | rfl | assumption | (repeat first | assumption | rfl | refine aG_n ?_ rfl rfl)) ?_
          refine wp_i2l (pc := 11) dX12_mend_11 ?_
          refine wp_lconst (pc := 12) (v := 0) dX12_mend_12 (by decide) ?_
          refine wp_aload_n (pc := 13) dX12_mend_13 (by first | rfl | assumption | (repeat first | assumption | rfl | refine aG_n ?_ rfl rfl)) ?_
          refine wp_getI (pc := 14) dX12_mend_14 fl_12_319 (by first | rfl | assumption | exact sh_house (by omega) | exact sh_wish (by omega) | exact sh_wor (by omega) | exact sh_bar (by omega) | exact sh_term (by omega) | exact sh_sheet (by omega) | exact sh_items (by omega) | exact sh_sums (by omega)) rfl ?_
          refine wp_iconst (pc := 17) (v := 1) dX12_mend_17 (by decide) ?_
          refine wp_isub (pc := 18) dX12_mend_18 ?_
          refine wp_i2l (pc := 19) dX12_mend_19 ?_
          refine wp_cS (pc := 20) dX12_mend_20 lk_12_133 rfl rfl rfl (c_X12_in (fun _ => aK_i ?_) (fun q => absurd ((in_term n1 n3).mpr c2) q))
          refine wp_if_eq (pc := 23) (tgt := 54) dX12_mend_23 rfl (fun q => absurd q (by decide)) (fun _ => ?_)
          refine wp_iload (pc := 26) dX12_mend_26 (by first | rfl | assumption | (repeat first | assumption | rfl | refine aG_n ?_ rfl rfl)) ?_
          refine wp_i2l (pc := 28) dX12_mend_28 ?_
          refine wp_lconst (pc := 29) (v := 0) dX12_mend_29 (by decide) ?_
          refine wp_ldc2 (pc := 30) dX12_mend_30 cl_12_216 ?_
          refine wp_cS (pc := 33) dX12_mend_33 lk_12_133 rfl rfl rfl (c_X12_in (fun _ => aK_i ?_) (fun q => absurd (by rw [w_int]; exact c3) q))
          refine wp_if_eq (pc := 36) (tgt := 54) dX12_mend_36 rfl (fun q => absurd q (by decide)) (fun _ => ?_)
          refine wp_aload_n (pc := 39) dX12_mend_39 (by first | rfl | assumption | (repeat first | assumption | rfl | refine aG_n ?_ rfl rfl)) ?_
          refine wp_iconst (pc := 40) (v := 2) dX12_mend_40 (by decide) ?_
          refine wp_iload_n (pc := 41) dX12_mend_41 (by first | rfl | assumption | (repeat first | assumption | rfl | refine aG_n ?_ rfl rfl)) ?_
          refine wp_iload_n (pc := 42) dX12_mend_42 (by first | rfl | assumption | (repeat first | assumption | rfl | refine aG_n ?_ rfl rfl)) ?_
          refine wp_iload_n (pc := 43) dX12_mend_43 (by first | rfl | assumption | (repeat first | assumption | rfl | refine aG_n ?_ rfl rfl)) ?_
          refine wp_iload (pc := 44) dX12_mend_44 (by first | rfl | assumption | (repeat first | assumption | rfl | refine aG_n ?_ rfl rfl)) ?_
          refine wp_iload (pc := 46) dX12_mend_46 (by first | rfl | assumption | (repeat first | assumption | rfl | refine aG_n ?_ rfl rfl)) ?_
          refine wp_cV (pc := 48) dX12_mend_48 lk_12_329 rfl (by decide) rfl (by first | rfl | assumption | exact sh_house (by omega) | exact sh_wish (by omega) | exact sh_wor (by omega) | exact sh_bar (by omega) | exact sh_term (by omega) | exact sh_sheet (by omega) | exact sh_items (by omega) | exact sh_sums (by omega)) rfl rfl (c_X12_addTerm n1 n3 (fun _ => aK_i ?_) (fun q => absurd q (by omega)))
          refine wp_goto (pc := 51) (tgt := 55) dX12_mend_51 rfl ?_
          refine wp_ireturn (pc := 55) dX12_mend_55 rfl (by first | rfl | decide | assumption) ?_
          exact k' _ hI
        · skip
          refine wp_iload_n (pc := 0) dX11_mend_0 (by first | rfl | assumption | (repeat first | assumption | rfl | refine aG_n ?_ rfl rfl)) ?_
          refine wp_iload_n (pc := 1) dX11_mend_1 (by first | rfl | assumption | (repeat first | assumption | rfl | refine aG_n ?_ rfl rfl)) ?_
          refine wp_iload_n (pc := 2) dX11_mend_2 (by first | rfl | assumption | (repeat first | assumption | rfl | refine aG_n ?_ rfl rfl)) ?_
          refine wp_cS (pc := 3) dX11_mend_3 lk_11_291 rfl rfl rfl (c_X11_isDebt (fun _ => aK_i ?_) (fun q => absurd c1 q))
          refine wp_if_eq (pc := 6) (tgt := 33) dX11_mend_6 rfl (fun q => absurd q (by decide)) (fun _ => ?_)
          refine wp_aload_n (pc := 9) dX11_mend_9 (by first | rfl | assumption | (repeat first | assumption | rfl | refine aG_n ?_ rfl rfl)) ?_
          refine wp_getR (pc := 10) dX11_mend_10 fl_11_53 (by first | rfl | assumption | exact sh_house (by omega) | exact sh_wish (by omega) | exact sh_wor (by omega) | exact sh_bar (by omega) | exact sh_term (by omega) | exact sh_sheet (by omega) | exact sh_items (by omega) | exact sh_sums (by omega)) rfl ?_
          refine wp_iload (pc := 13) dX11_mend_13 (by first | rfl | assumption | (repeat first | assumption | rfl | refine aG_n ?_ rfl rfl)) ?_
          refine wp_cV (pc := 15) dX11_mend_15 lk_11_303 rfl (by decide) rfl (by first | rfl | assumption | exact sh_house (by omega) | exact sh_wish (by omega) | exact sh_wor (by omega) | exact sh_bar (by omega) | exact sh_term (by omega) | exact sh_sheet (by omega) | exact sh_items (by omega) | exact sh_sums (by omega)) rfl rfl (c_X2_hasTerm n1 n2 (fun _ => aK_i ?_) (fun q => absurd c2 q))
          refine wp_if_eq (pc := 18) (tgt := 33) dX11_mend_18 rfl (fun q => absurd q (by decide)) (fun _ => ?_)
          refine wp_iload (pc := 21) dX11_mend_21 (by first | rfl | assumption | (repeat first | assumption | rfl | refine aG_n ?_ rfl rfl)) ?_
          refine wp_iconst (pc := 23) (v := 0) dX11_mend_23 (by decide) ?_
          refine wp_sipush (pc := 24) (v := 999) dX11_mend_24 (by decide) ?_
          refine wp_cS (pc := 27) dX11_mend_27 lk_11_112 rfl rfl rfl (c_X11_isWithin (fun _ => aK_i ?_) (fun q => absurd c3 q))
          refine wp_if_ne (pc := 30) (tgt := 35) dX11_mend_30 rfl (fun _ => ?_) (fun q => absurd q (by decide))
          refine wp_aload_n (pc := 35) dX11_mend_35 (by first | rfl | assumption | (repeat first | assumption | rfl | refine aG_n ?_ rfl rfl)) ?_
          refine wp_getR (pc := 36) dX11_mend_36 fl_11_53 (by first | rfl | assumption | exact sh_house (by omega) | exact sh_wish (by omega) | exact sh_wor (by omega) | exact sh_bar (by omega) | exact sh_term (by omega) | exact sh_sheet (by omega) | exact sh_items (by omega) | exact sh_sums (by omega)) rfl ?_
          refine wp_iconst (pc := 39) (v := 2) dX11_mend_39 (by decide) ?_
          refine wp_iload_n (pc := 40) dX11_mend_40 (by first | rfl | assumption | (repeat first | assumption | rfl | refine aG_n ?_ rfl rfl)) ?_
          refine wp_iload_n (pc := 41) dX11_mend_41 (by first | rfl | assumption | (repeat first | assumption | rfl | refine aG_n ?_ rfl rfl)) ?_
          refine wp_iload_n (pc := 42) dX11_mend_42 (by first | rfl | assumption | (repeat first | assumption | rfl | refine aG_n ?_ rfl rfl)) ?_
          refine wp_iload (pc := 43) dX11_mend_43 (by first | rfl | assumption | (repeat first | assumption | rfl | refine aG_n ?_ rfl rfl)) ?_
          refine wp_iload (pc := 45) dX11_mend_45 (by first | rfl | assumption | (repeat first | assumption | rfl | refine aG_n ?_ rfl rfl)) ?_
          refine wp_cV (pc := 47) dX11_mend_47 lk_11_297 rfl (by decide) rfl (by first | rfl | assumption | exact sh_house (by omega) | exact sh_wish (by omega) | exact sh_wor (by omega) | exact sh_bar (by omega) | exact sh_term (by omega) | exact sh_sheet (by omega) | exact sh_items (by omega) | exact sh_sums (by omega)) rfl rfl (c_X2_add n1 n2 (fun q => absurd q h16) (fun _ => aK_i ?_))
          refine wp_ireturn (pc := 50) dX11_mend_50 rfl (by first | rfl | decide | assumption) ?_
          refine k _ _ (fun Q' k' => ?_)
          have n4 : ledC μ.1 n (2) (a) (b) (c) (t) (w) 86 37 = nI n := by simp (disch := omega) only [ledC, up2_ne, up2_p]; exact n3
          refine wp_iload_n (pc := 0) dX12_mend_0 (by first | rfl | assumption | (repeat first | assumption | rfl | refine aG_n ?_ rfl rfl)) ?_
          refine wp_iload_n (pc := 1) dX12_mend_1 (by first | rfl | assumption | (repeat first | assumption | rfl | refine aG_n ?_ rfl rfl)) ?_
          refine wp_iload_n (pc := 2) dX12_mend_2 (by first | rfl | assumption | (repeat first | assumption | rfl | refine aG_n ?_ rfl rfl)) ?_
          refine wp_cS (pc := 3) dX12_mend_3 lk_12_322 rfl rfl rfl (c_X12_isDebt (fun _ => aK_i ?_) (fun q => absurd c1 q))
          refine wp_if_eq (pc := 6) (tgt := 54) dX12_mend_6 rfl (fun q => absurd q (by decide)) (fun _ => ?_)
          refine wp_iload (pc := 9) dX12_mend_9 (by first | rfl | assumption | (repeat first | assumption | rfl | refine aG_n ?_ rfl rfl)) ?_
          refine wp_i2l (pc := 11) dX12_mend_11 ?_
          refine wp_lconst (pc := 12) (v := 0) dX12_mend_12 (by decide) ?_
          refine wp_aload_n (pc := 13) dX12_mend_13 (by first | rfl | assumption | (repeat first | assumption | rfl | refine aG_n ?_ rfl rfl)) ?_
          refine wp_getI (pc := 14) dX12_mend_14 fl_12_319 (by first | rfl | assumption | exact sh_house (by omega) | exact sh_wish (by omega) | exact sh_wor (by omega) | exact sh_bar (by omega) | exact sh_term (by omega) | exact sh_sheet (by omega) | exact sh_items (by omega) | exact sh_sums (by omega)) rfl ?_
          refine wp_iconst (pc := 17) (v := 1) dX12_mend_17 (by decide) ?_
          refine wp_isub (pc := 18) dX12_mend_18 ?_
          refine wp_i2l (pc := 19) dX12_mend_19 ?_
          refine wp_cS (pc := 20) dX12_mend_20 lk_12_133 rfl rfl rfl (c_X12_in (fun _ => aK_i ?_) (fun q => absurd ((in_term n1 n4).mpr c2) q))
          refine wp_if_eq (pc := 23) (tgt := 54) dX12_mend_23 rfl (fun q => absurd q (by decide)) (fun _ => ?_)
          refine wp_iload (pc := 26) dX12_mend_26 (by first | rfl | assumption | (repeat first | assumption | rfl | refine aG_n ?_ rfl rfl)) ?_
          refine wp_i2l (pc := 28) dX12_mend_28 ?_
          refine wp_lconst (pc := 29) (v := 0) dX12_mend_29 (by decide) ?_
          refine wp_ldc2 (pc := 30) dX12_mend_30 cl_12_216 ?_
          refine wp_cS (pc := 33) dX12_mend_33 lk_12_133 rfl rfl rfl (c_X12_in (fun _ => aK_i ?_) (fun q => absurd (by rw [w_int]; exact c3) q))
          refine wp_if_eq (pc := 36) (tgt := 54) dX12_mend_36 rfl (fun q => absurd q (by decide)) (fun _ => ?_)
          refine wp_aload_n (pc := 39) dX12_mend_39 (by first | rfl | assumption | (repeat first | assumption | rfl | refine aG_n ?_ rfl rfl)) ?_
          refine wp_iconst (pc := 40) (v := 2) dX12_mend_40 (by decide) ?_
          refine wp_iload_n (pc := 41) dX12_mend_41 (by first | rfl | assumption | (repeat first | assumption | rfl | refine aG_n ?_ rfl rfl)) ?_
          refine wp_iload_n (pc := 42) dX12_mend_42 (by first | rfl | assumption | (repeat first | assumption | rfl | refine aG_n ?_ rfl rfl)) ?_
          refine wp_iload_n (pc := 43) dX12_mend_43 (by first | rfl | assumption | (repeat first | assumption | rfl | refine aG_n ?_ rfl rfl)) ?_
          refine wp_iload (pc := 44) dX12_mend_44 (by first | rfl | assumption | (repeat first | assumption | rfl | refine aG_n ?_ rfl rfl)) ?_
          refine wp_iload (pc := 46) dX12_mend_46 (by first | rfl | assumption | (repeat first | assumption | rfl | refine aG_n ?_ rfl rfl)) ?_
          refine wp_cV (pc := 48) dX12_mend_48 lk_12_329 rfl (by decide) rfl (by first | rfl | assumption | exact sh_house (by omega) | exact sh_wish (by omega) | exact sh_wor (by omega) | exact sh_bar (by omega) | exact sh_term (by omega) | exact sh_sheet (by omega) | exact sh_items (by omega) | exact sh_sums (by omega)) rfl rfl (c_X12_addTerm n1 n4 (fun q => absurd q h16) (fun _ => aK_i ?_))
          refine wp_goto (pc := 51) (tgt := 55) dX12_mend_51 rfl ?_
          refine wp_ireturn (pc := 55) dX12_mend_55 rfl (by first | rfl | decide | assumption) ?_
          refine k' _ ?_
          have hL := led_add (kd := 2) (a := a) (b := b) (c := c) (ab := t) (wi := w) hI.2.2.2.2.2.2.1 n3 (by omega) (by unfold inR; decide) c1.1 c1.2.1 ⟨by have := c1.2.2.2.1; omega, c1.2.2.2.2⟩ (fun q => absurd q (by decide)) (fun q => absurd q (by decide)) (fun _ => inT_of c2) c3
          simp only [ledM, ledC] at hL ⊢
          exact ⟨own_c (by simp (disch := omega) only [up2_ne, fil_ne]) (fun i9 hi9 => (by simp (disch := omega) only [up2_ne, up2_p, fil_ne, fil_p])) (hI.1), coin_c (by simp (disch := omega) only [up2_ne, fil_ne]) (fun i9 hi9 => (by simp (disch := omega) only [up2_ne, up2_p, fil_ne, fil_p])) (hI.2.1), lev_c ⟨(by simp (disch := omega) only [up2_ne, fil_ne]), (by simp (disch := omega) only [up2_ne, fil_ne]), (by simp (disch := omega) only [up2_ne, fil_ne])⟩ (fun i9 hi9 => ⟨(by simp (disch := omega) only [up2_ne, up2_p, fil_ne, fil_p]), (by simp (disch := omega) only [up2_ne, up2_p, fil_ne, fil_p]), (by simp (disch := omega) only [up2_ne, up2_p, fil_ne, fil_p])⟩) (hI.2.2.1), wish_c ⟨(by simp (disch := omega) only [up2_ne, fil_ne]), (by simp (disch := omega) only [up2_ne, fil_ne]), (by simp (disch := omega) only [up2_ne, fil_ne]), (by simp (disch := omega) only [up2_ne, fil_ne])⟩ (fun i9 hi9 => ⟨(by simp (disch := omega) only [up2_ne, fil_ne]), (by simp (disch := omega) only [up2_ne, fil_ne]), (by simp (disch := omega) only [up2_ne, fil_ne])⟩) (hI.2.2.2.1), tape_c (by simp (disch := omega) only [up2_ne, up2_p, fil_ne, fil_p]) (by simp (disch := omega) only [up2_ne, up2_p, fil_ne, fil_p]) (by simp (disch := omega) only [up2_ne, fil_ne]) (by simp (disch := omega) only [up2_ne, fil_ne]) (hI.2.2.2.2.1), talk_c ⟨(by simp (disch := omega) only [up2_ne, fil_ne]), (by simp (disch := omega) only [up2_ne, fil_ne]), (by simp (disch := omega) only [up2_ne, fil_ne]), (by simp (disch := omega) only [up2_ne, fil_ne]), (by simp (disch := omega) only [up2_ne, fil_ne])⟩ ⟨(by simp (disch := omega) only [up2_ne, fil_ne]), (by simp (disch := omega) only [up2_ne, fil_ne]), (by simp (disch := omega) only [up2_ne, fil_ne])⟩ (fun j9 hj9 hk9 => (by simp (disch := omega) only [up2_ne, up2_p, fil_ne, fil_p])) (fun o9 => ⟨(by simp (disch := omega) only [up2_ne, fil_ne]), (by simp (disch := omega) only [up2_ne, fil_ne])⟩) rfl (hI.2.2.2.2.2.1), hL, row_c (by simp (disch := omega) only [up2_ne, fil_ne]) (by simp (disch := omega) only [up2_ne, fil_ne]) (hI.2.2.2.2.2.2.2.1), sheet_c ⟨(by simp (disch := omega) only [up2_ne, fil_ne]), (by simp (disch := omega) only [up2_ne, fil_ne]), (by simp (disch := omega) only [up2_ne, fil_ne])⟩ (fun s9 hs9 => ⟨(by simp (disch := omega) only [up2_ne, fil_ne]), (by simp (disch := omega) only [up2_ne, fil_ne])⟩) (hI.2.2.2.2.2.2.2.2.1), grp_c (by simp (disch := omega) only [up2_ne, up2_p, fil_ne, fil_p]) (fun g9 hg9 => (by simp (disch := omega) only [up2_ne, fil_ne])) (fun i9 hi9 => ⟨(by simp (disch := omega) only [up2_ne, fil_ne]), (by simp (disch := omega) only [up2_ne, fil_ne])⟩) (hI.2.2.2.2.2.2.2.2.2)⟩
      · skip
        refine wp_iload_n (pc := 0) dX11_mend_0 (by first | rfl | assumption | (repeat first | assumption | rfl | refine aG_n ?_ rfl rfl)) ?_
        refine wp_iload_n (pc := 1) dX11_mend_1 (by first | rfl | assumption | (repeat first | assumption | rfl | refine aG_n ?_ rfl rfl)) ?_
        refine wp_iload_n (pc := 2) dX11_mend_2 (by first | rfl | assumption | (repeat first | assumption | rfl | refine aG_n ?_ rfl rfl)) ?_
        refine wp_cS (pc := 3) dX11_mend_3 lk_11_291 rfl rfl rfl (c_X11_isDebt (fun _ => aK_i ?_) (fun q => absurd c1 q))
        refine wp_if_eq (pc := 6) (tgt := 33) dX11_mend_6 rfl (fun q => absurd q (by decide)) (fun _ => ?_)
        refine wp_aload_n (pc := 9) dX11_mend_9 (by first | rfl | assumption | (repeat first | assumption | rfl | refine aG_n ?_ rfl rfl)) ?_
        refine wp_getR (pc := 10) dX11_mend_10 fl_11_53 (by first | rfl | assumption | exact sh_house (by omega) | exact sh_wish (by omega) | exact sh_wor (by omega) | exact sh_bar (by omega) | exact sh_term (by omega) | exact sh_sheet (by omega) | exact sh_items (by omega) | exact sh_sums (by omega)) rfl ?_
        refine wp_iload (pc := 13) dX11_mend_13 (by first | rfl | assumption | (repeat first | assumption | rfl | refine aG_n ?_ rfl rfl)) ?_
        refine wp_cV (pc := 15) dX11_mend_15 lk_11_303 rfl (by decide) rfl (by first | rfl | assumption | exact sh_house (by omega) | exact sh_wish (by omega) | exact sh_wor (by omega) | exact sh_bar (by omega) | exact sh_term (by omega) | exact sh_sheet (by omega) | exact sh_items (by omega) | exact sh_sums (by omega)) rfl rfl (c_X2_hasTerm n1 n2 (fun _ => aK_i ?_) (fun q => absurd c2 q))
        refine wp_if_eq (pc := 18) (tgt := 33) dX11_mend_18 rfl (fun q => absurd q (by decide)) (fun _ => ?_)
        refine wp_iload (pc := 21) dX11_mend_21 (by first | rfl | assumption | (repeat first | assumption | rfl | refine aG_n ?_ rfl rfl)) ?_
        refine wp_iconst (pc := 23) (v := 0) dX11_mend_23 (by decide) ?_
        refine wp_sipush (pc := 24) (v := 999) dX11_mend_24 (by decide) ?_
        refine wp_cS (pc := 27) dX11_mend_27 lk_11_112 rfl rfl rfl (c_X11_isWithin (fun q => absurd q c3) (fun _ => aK_i ?_))
        refine wp_if_ne (pc := 30) (tgt := 35) dX11_mend_30 rfl (fun q => absurd q (by decide)) (fun _ => ?_)
        refine wp_iconst (pc := 33) (v := -1) dX11_mend_33 (by decide) ?_
        refine wp_ireturn (pc := 34) dX11_mend_34 rfl (by first | rfl | decide | assumption) ?_
        refine k _ _ (fun Q' k' => ?_)
        refine wp_iload_n (pc := 0) dX12_mend_0 (by first | rfl | assumption | (repeat first | assumption | rfl | refine aG_n ?_ rfl rfl)) ?_
        refine wp_iload_n (pc := 1) dX12_mend_1 (by first | rfl | assumption | (repeat first | assumption | rfl | refine aG_n ?_ rfl rfl)) ?_
        refine wp_iload_n (pc := 2) dX12_mend_2 (by first | rfl | assumption | (repeat first | assumption | rfl | refine aG_n ?_ rfl rfl)) ?_
        refine wp_cS (pc := 3) dX12_mend_3 lk_12_322 rfl rfl rfl (c_X12_isDebt (fun _ => aK_i ?_) (fun q => absurd c1 q))
        refine wp_if_eq (pc := 6) (tgt := 54) dX12_mend_6 rfl (fun q => absurd q (by decide)) (fun _ => ?_)
        refine wp_iload (pc := 9) dX12_mend_9 (by first | rfl | assumption | (repeat first | assumption | rfl | refine aG_n ?_ rfl rfl)) ?_
        refine wp_i2l (pc := 11) dX12_mend_11 ?_
        refine wp_lconst (pc := 12) (v := 0) dX12_mend_12 (by decide) ?_
        refine wp_aload_n (pc := 13) dX12_mend_13 (by first | rfl | assumption | (repeat first | assumption | rfl | refine aG_n ?_ rfl rfl)) ?_
        refine wp_getI (pc := 14) dX12_mend_14 fl_12_319 (by first | rfl | assumption | exact sh_house (by omega) | exact sh_wish (by omega) | exact sh_wor (by omega) | exact sh_bar (by omega) | exact sh_term (by omega) | exact sh_sheet (by omega) | exact sh_items (by omega) | exact sh_sums (by omega)) rfl ?_
        refine wp_iconst (pc := 17) (v := 1) dX12_mend_17 (by decide) ?_
        refine wp_isub (pc := 18) dX12_mend_18 ?_
        refine wp_i2l (pc := 19) dX12_mend_19 ?_
        refine wp_cS (pc := 20) dX12_mend_20 lk_12_133 rfl rfl rfl (c_X12_in (fun _ => aK_i ?_) (fun q => absurd ((in_term n1 n3).mpr c2) q))
        refine wp_if_eq (pc := 23) (tgt := 54) dX12_mend_23 rfl (fun q => absurd q (by decide)) (fun _ => ?_)
        refine wp_iload (pc := 26) dX12_mend_26 (by first | rfl | assumption | (repeat first | assumption | rfl | refine aG_n ?_ rfl rfl)) ?_
        refine wp_i2l (pc := 28) dX12_mend_28 ?_
        refine wp_lconst (pc := 29) (v := 0) dX12_mend_29 (by decide) ?_
        refine wp_ldc2 (pc := 30) dX12_mend_30 cl_12_216 ?_
        refine wp_cS (pc := 33) dX12_mend_33 lk_12_133 rfl rfl rfl (c_X12_in (fun q => absurd q (by rw [w_int]; exact c3)) (fun _ => aK_i ?_))
        refine wp_if_eq (pc := 36) (tgt := 54) dX12_mend_36 rfl (fun _ => ?_) (fun q => absurd q (by decide))
        refine wp_iconst (pc := 54) (v := -1) dX12_mend_54 (by decide) ?_
        refine wp_ireturn (pc := 55) dX12_mend_55 rfl (by first | rfl | decide | assumption) ?_
        exact k' _ hI
    · skip
      refine wp_iload_n (pc := 0) dX11_mend_0 (by first | rfl | assumption | (repeat first | assumption | rfl | refine aG_n ?_ rfl rfl)) ?_
      refine wp_iload_n (pc := 1) dX11_mend_1 (by first | rfl | assumption | (repeat first | assumption | rfl | refine aG_n ?_ rfl rfl)) ?_
      refine wp_iload_n (pc := 2) dX11_mend_2 (by first | rfl | assumption | (repeat first | assumption | rfl | refine aG_n ?_ rfl rfl)) ?_
      refine wp_cS (pc := 3) dX11_mend_3 lk_11_291 rfl rfl rfl (c_X11_isDebt (fun _ => aK_i ?_) (fun q => absurd c1 q))
      refine wp_if_eq (pc := 6) (tgt := 33) dX11_mend_6 rfl (fun q => absurd q (by decide)) (fun _ => ?_)
      refine wp_aload_n (pc := 9) dX11_mend_9 (by first | rfl | assumption | (repeat first | assumption | rfl | refine aG_n ?_ rfl rfl)) ?_
      refine wp_getR (pc := 10) dX11_mend_10 fl_11_53 (by first | rfl | assumption | exact sh_house (by omega) | exact sh_wish (by omega) | exact sh_wor (by omega) | exact sh_bar (by omega) | exact sh_term (by omega) | exact sh_sheet (by omega) | exact sh_items (by omega) | exact sh_sums (by omega)) rfl ?_
      refine wp_iload (pc := 13) dX11_mend_13 (by first | rfl | assumption | (repeat first | assumption | rfl | refine aG_n ?_ rfl rfl)) ?_
      refine wp_cV (pc := 15) dX11_mend_15 lk_11_303 rfl (by decide) rfl (by first | rfl | assumption | exact sh_house (by omega) | exact sh_wish (by omega) | exact sh_wor (by omega) | exact sh_bar (by omega) | exact sh_term (by omega) | exact sh_sheet (by omega) | exact sh_items (by omega) | exact sh_sums (by omega)) rfl rfl (c_X2_hasTerm n1 n2 (fun q => absurd q c2) (fun _ => aK_i ?_))
      refine wp_if_eq (pc := 18) (tgt := 33) dX11_mend_18 rfl (fun _ => ?_) (fun q => absurd q (by decide))
      refine wp_iconst (pc := 33) (v := -1) dX11_mend_33 (by decide) ?_
      refine wp_ireturn (pc := 34) dX11_mend_34 rfl (by first | rfl | decide | assumption) ?_
      refine k _ _ (fun Q' k' => ?_)
      refine wp_iload_n (pc := 0) dX12_mend_0 (by first | rfl | assumption | (repeat first | assumption | rfl | refine aG_n ?_ rfl rfl)) ?_
      refine wp_iload_n (pc := 1) dX12_mend_1 (by first | rfl | assumption | (repeat first | assumption | rfl | refine aG_n ?_ rfl rfl)) ?_
      refine wp_iload_n (pc := 2) dX12_mend_2 (by first | rfl | assumption | (repeat first | assumption | rfl | refine aG_n ?_ rfl rfl)) ?_
      refine wp_cS (pc := 3) dX12_mend_3 lk_12_322 rfl rfl rfl (c_X12_isDebt (fun _ => aK_i ?_) (fun q => absurd c1 q))
      refine wp_if_eq (pc := 6) (tgt := 54) dX12_mend_6 rfl (fun q => absurd q (by decide)) (fun _ => ?_)
      refine wp_iload (pc := 9) dX12_mend_9 (by first | rfl | assumption | (repeat first | assumption | rfl | refine aG_n ?_ rfl rfl)) ?_
      refine wp_i2l (pc := 11) dX12_mend_11 ?_
      refine wp_lconst (pc := 12) (v := 0) dX12_mend_12 (by decide) ?_
      refine wp_aload_n (pc := 13) dX12_mend_13 (by first | rfl | assumption | (repeat first | assumption | rfl | refine aG_n ?_ rfl rfl)) ?_
      refine wp_getI (pc := 14) dX12_mend_14 fl_12_319 (by first | rfl | assumption | exact sh_house (by omega) | exact sh_wish (by omega) | exact sh_wor (by omega) | exact sh_bar (by omega) | exact sh_term (by omega) | exact sh_sheet (by omega) | exact sh_items (by omega) | exact sh_sums (by omega)) rfl ?_
      refine wp_iconst (pc := 17) (v := 1) dX12_mend_17 (by decide) ?_
      refine wp_isub (pc := 18) dX12_mend_18 ?_
      refine wp_i2l (pc := 19) dX12_mend_19 ?_
      refine wp_cS (pc := 20) dX12_mend_20 lk_12_133 rfl rfl rfl (c_X12_in (fun q => absurd q (fun z => c2 ((in_term n1 n3).mp z))) (fun _ => aK_i ?_))
      refine wp_if_eq (pc := 23) (tgt := 54) dX12_mend_23 rfl (fun _ => ?_) (fun q => absurd q (by decide))
      refine wp_iconst (pc := 54) (v := -1) dX12_mend_54 (by decide) ?_
      refine wp_ireturn (pc := 55) dX12_mend_55 rfl (by first | rfl | decide | assumption) ?_
      exact k' _ hI
  · skip
    refine wp_iload_n (pc := 0) dX11_mend_0 (by first | rfl | assumption | (repeat first | assumption | rfl | refine aG_n ?_ rfl rfl)) ?_
    refine wp_iload_n (pc := 1) dX11_mend_1 (by first | rfl | assumption | (repeat first | assumption | rfl | refine aG_n ?_ rfl rfl)) ?_
    refine wp_iload_n (pc := 2) dX11_mend_2 (by first | rfl | assumption | (repeat first | assumption | rfl | refine aG_n ?_ rfl rfl)) ?_
    refine wp_cS (pc := 3) dX11_mend_3 lk_11_291 rfl rfl rfl (c_X11_isDebt (fun q => absurd q c1) (fun _ => aK_i ?_))
    refine wp_if_eq (pc := 6) (tgt := 33) dX11_mend_6 rfl (fun _ => ?_) (fun q => absurd q (by decide))
    refine wp_iconst (pc := 33) (v := -1) dX11_mend_33 (by decide) ?_
    refine wp_ireturn (pc := 34) dX11_mend_34 rfl (by first | rfl | decide | assumption) ?_
    refine k _ _ (fun Q' k' => ?_)
    refine wp_iload_n (pc := 0) dX12_mend_0 (by first | rfl | assumption | (repeat first | assumption | rfl | refine aG_n ?_ rfl rfl)) ?_
    refine wp_iload_n (pc := 1) dX12_mend_1 (by first | rfl | assumption | (repeat first | assumption | rfl | refine aG_n ?_ rfl rfl)) ?_
    refine wp_iload_n (pc := 2) dX12_mend_2 (by first | rfl | assumption | (repeat first | assumption | rfl | refine aG_n ?_ rfl rfl)) ?_
    refine wp_cS (pc := 3) dX12_mend_3 lk_12_322 rfl rfl rfl (c_X12_isDebt (fun q => absurd q c1) (fun _ => aK_i ?_))
    refine wp_if_eq (pc := 6) (tgt := 54) dX12_mend_6 rfl (fun _ => ?_) (fun q => absurd q (by decide))
    refine wp_iconst (pc := 54) (v := -1) dX12_mend_54 (by decide) ?_
    refine wp_ireturn (pc := 55) dX12_mend_55 rfl (by first | rfl | decide | assumption) ?_
    exact k' _ hI
theorem J_happen (e h w : Int32) : Jnt mX11_happen mX12_happen [.int e, .int h, .int w] := by
  intro X μ Q hI k
  by_cases c1 : inR e 0 9
  · by_cases c2 : inR h 0 9999
    · by_cases c3 : inR w 0 9999
      · by_cases c4 : h ≤ w
        · have c5 : h.toInt64.toInt ≤ w.toInt64.toInt ∧ w.toInt64.toInt ≤ (9999 : Int64).toInt := by rw [w_int, w_int]; exact ⟨(i_le _ _).mp c4, c3.2⟩
          obtain ⟨j, hj, rfl⟩ := inR_of (n := 9) c1
          have hE := hI.2.2.2.2.2.2.1.2 j (by omega)
          by_cases c6 : μ.1 34 j = -1
          · have c7 : μ.1 118 j = -4 := by
              rcases hE with q | q
              · exact q.2
              · exact absurd (q.1.symm.trans c6) (by intro z; have := q.2.1.1; rw [z] at this; exact absurd this (by decide))
            refine wp_iload_n (pc := 0) dX11_happen_0 (by first | rfl | assumption | (repeat first | assumption | rfl | refine aG_n ?_ rfl rfl)) ?_
            refine wp_cS (pc := 1) dX11_happen_1 lk_11_300 rfl rfl rfl (c_X11_isEvent (fun _ => aK_i ?_) (fun q => absurd c1 q))
            refine wp_if_eq (pc := 4) (tgt := 26) dX11_happen_4 rfl (fun q => absurd q (by decide)) (fun _ => ?_)
            refine wp_iload_n (pc := 7) dX11_happen_7 (by first | rfl | assumption | (repeat first | assumption | rfl | refine aG_n ?_ rfl rfl)) ?_
            refine wp_cS (pc := 8) dX11_happen_8 lk_11_294 rfl rfl rfl (c_X11_isHour (fun _ => aK_i ?_) (fun q => absurd c2 q))
            refine wp_if_eq (pc := 11) (tgt := 26) dX11_happen_11 rfl (fun q => absurd q (by decide)) (fun _ => ?_)
            refine wp_iload_n (pc := 14) dX11_happen_14 (by first | rfl | assumption | (repeat first | assumption | rfl | refine aG_n ?_ rfl rfl)) ?_
            refine wp_cS (pc := 15) dX11_happen_15 lk_11_294 rfl rfl rfl (c_X11_isHour (fun _ => aK_i ?_) (fun q => absurd c3 q))
            refine wp_if_eq (pc := 18) (tgt := 26) dX11_happen_18 rfl (fun q => absurd q (by decide)) (fun _ => ?_)
            refine wp_iload_n (pc := 21) dX11_happen_21 (by first | rfl | assumption | (repeat first | assumption | rfl | refine aG_n ?_ rfl rfl)) ?_
            refine wp_iload_n (pc := 22) dX11_happen_22 (by first | rfl | assumption | (repeat first | assumption | rfl | refine aG_n ?_ rfl rfl)) ?_
            refine wp_icmp_ge (pc := 23) (tgt := 28) dX11_happen_23 rfl (fun _ => ?_) (fun q => absurd c4 q)
            refine wp_aload_n (pc := 28) dX11_happen_28 (by first | rfl | assumption | (repeat first | assumption | rfl | refine aG_n ?_ rfl rfl)) ?_
            refine wp_getR (pc := 29) dX11_happen_29 fl_11_53 (by first | rfl | assumption | exact sh_house (by omega) | exact sh_wish (by omega) | exact sh_wor (by omega) | exact sh_bar (by omega) | exact sh_term (by omega) | exact sh_sheet (by omega) | exact sh_items (by omega) | exact sh_sums (by omega)) rfl ?_
            refine wp_iload_n (pc := 32) dX11_happen_32 (by first | rfl | assumption | (repeat first | assumption | rfl | refine aG_n ?_ rfl rfl)) ?_
            refine wp_cV (pc := 33) dX11_happen_33 lk_11_306 rfl (by decide) rfl (by first | rfl | assumption | exact sh_house (by omega) | exact sh_wish (by omega) | exact sh_wor (by omega) | exact sh_bar (by omega) | exact sh_term (by omega) | exact sh_sheet (by omega) | exact sh_items (by omega) | exact sh_sums (by omega)) rfl rfl ?_
            refine wp_aload_n (pc := 0) dX2_hasHappened_0 (by first | rfl | assumption | (repeat first | assumption | rfl | refine aG_n ?_ rfl rfl)) ?_
            refine wp_getR (pc := 1) dX2_hasHappened_1 fl_2_21 (by first | rfl | assumption | exact sh_house (by omega) | exact sh_wish (by omega) | exact sh_wor (by omega) | exact sh_bar (by omega) | exact sh_term (by omega) | exact sh_sheet (by omega) | exact sh_items (by omega) | exact sh_sums (by omega)) rfl ?_
            refine wp_iload_n (pc := 4) dX2_hasHappened_4 (by first | rfl | assumption | (repeat first | assumption | rfl | refine aG_n ?_ rfl rfl)) ?_
            refine wp_iald (pc := 5) dX2_hasHappened_5 (by first | rfl | assumption | exact sh_house (by omega) | exact sh_wish (by omega) | exact sh_wor (by omega) | exact sh_bar (by omega) | exact sh_term (by omega) | exact sh_sheet (by omega) | exact sh_items (by omega) | exact sh_sums (by omega)) (vp_in_nI (by omega) (by decide)) ?_
            refine wp_iconst (pc := 6) (v := -1) dX2_hasHappened_6 (by decide) ?_
            refine wp_icmp_eq (pc := 7) (tgt := 14) dX2_hasHappened_7 rfl (fun _ => ?_) (fun q => absurd (by rw [nI_clamp (by omega)]; exact c6) q)
            refine wp_iconst (pc := 14) (v := 0) dX2_hasHappened_14 (by decide) ?_
            refine wp_iretK (pc := 15) dX2_hasHappened_15 rfl (by first | rfl | decide | assumption) ?_
            refine wp_if_eq (pc := 36) (tgt := 42) dX11_happen_36 rfl (fun _ => ?_) (fun q => absurd q (by decide))
            refine wp_aload_n (pc := 42) dX11_happen_42 (by first | rfl | assumption | (repeat first | assumption | rfl | refine aG_n ?_ rfl rfl)) ?_
            refine wp_getR (pc := 43) dX11_happen_43 fl_11_53 (by first | rfl | assumption | exact sh_house (by omega) | exact sh_wish (by omega) | exact sh_wor (by omega) | exact sh_bar (by omega) | exact sh_term (by omega) | exact sh_sheet (by omega) | exact sh_items (by omega) | exact sh_sums (by omega)) rfl ?_
            refine wp_iload_n (pc := 46) dX11_happen_46 (by first | rfl | assumption | (repeat first | assumption | rfl | refine aG_n ?_ rfl rfl)) ?_
            refine wp_iload_n (pc := 47) dX11_happen_47 (by first | rfl | assumption | (repeat first | assumption | rfl | refine aG_n ?_ rfl rfl)) ?_
            refine wp_iload_n (pc := 48) dX11_happen_48 (by first | rfl | assumption | (repeat first | assumption | rfl | refine aG_n ?_ rfl rfl)) ?_
            refine wp_cV (pc := 49) dX11_happen_49 lk_11_309 rfl (by decide) rfl (by first | rfl | assumption | exact sh_house (by omega) | exact sh_wish (by omega) | exact sh_wor (by omega) | exact sh_bar (by omega) | exact sh_term (by omega) | exact sh_sheet (by omega) | exact sh_items (by omega) | exact sh_sums (by omega)) rfl rfl ?_
            refine wp_aload_n (pc := 0) dX2_record_0 (by first | rfl | assumption | (repeat first | assumption | rfl | refine aG_n ?_ rfl rfl)) ?_
            refine wp_getR (pc := 1) dX2_record_1 fl_2_21 (by first | rfl | assumption | exact sh_house (by omega) | exact sh_wish (by omega) | exact sh_wor (by omega) | exact sh_bar (by omega) | exact sh_term (by omega) | exact sh_sheet (by omega) | exact sh_items (by omega) | exact sh_sums (by omega)) rfl ?_
            refine wp_iload_n (pc := 4) dX2_record_4 (by first | rfl | assumption | (repeat first | assumption | rfl | refine aG_n ?_ rfl rfl)) ?_
            refine wp_iload_n (pc := 5) dX2_record_5 (by first | rfl | assumption | (repeat first | assumption | rfl | refine aG_n ?_ rfl rfl)) ?_
            refine wp_iast (pc := 6) dX2_record_6 (by first | rfl | assumption | exact sh_house (by omega) | exact sh_wish (by omega) | exact sh_wor (by omega) | exact sh_bar (by omega) | exact sh_term (by omega) | exact sh_sheet (by omega) | exact sh_items (by omega) | exact sh_sums (by omega)) (vp_in_nI (by omega) (by decide)) ?_
            refine wp_aload_n (pc := 7) dX2_record_7 (by first | rfl | assumption | (repeat first | assumption | rfl | refine aG_n ?_ rfl rfl)) ?_
            refine wp_getR (pc := 8) dX2_record_8 fl_2_24 (by first | rfl | assumption | exact sh_house (by omega) | exact sh_wish (by omega) | exact sh_wor (by omega) | exact sh_bar (by omega) | exact sh_term (by omega) | exact sh_sheet (by omega) | exact sh_items (by omega) | exact sh_sums (by omega)) rfl ?_
            refine wp_iload_n (pc := 11) dX2_record_11 (by first | rfl | assumption | (repeat first | assumption | rfl | refine aG_n ?_ rfl rfl)) ?_
            refine wp_iload_n (pc := 12) dX2_record_12 (by first | rfl | assumption | (repeat first | assumption | rfl | refine aG_n ?_ rfl rfl)) ?_
            refine wp_iast (pc := 13) dX2_record_13 (by first | rfl | assumption | exact sh_house (by omega) | exact sh_wish (by omega) | exact sh_wor (by omega) | exact sh_bar (by omega) | exact sh_term (by omega) | exact sh_sheet (by omega) | exact sh_items (by omega) | exact sh_sums (by omega)) (vp_in_nI (by omega) (by decide)) ?_
            refine wp_vretK (pc := 14) dX2_record_14 rfl ?_
            refine wp_iconst (pc := 52) (v := 1) dX11_happen_52 (by decide) ?_
            refine wp_ireturn (pc := 53) dX11_happen_53 rfl (by first | rfl | decide | assumption) ?_
            refine k _ _ (fun Q' k' => ?_)
            have c8 : up2 (up2 μ.1 34 (nI j).toNatClampNeg h) 35 (nI j).toNatClampNeg w 118 (nI j).toNatClampNeg = -4 := by simp (disch := omega) only [nI_clamp, up2_ne]; exact c7
            refine wp_iload_n (pc := 0) dX12_happen_0 (by first | rfl | assumption | (repeat first | assumption | rfl | refine aG_n ?_ rfl rfl)) ?_
            refine wp_i2l (pc := 1) dX12_happen_1 ?_
            refine wp_lconst (pc := 2) (v := 0) dX12_happen_2 (by decide) ?_
            refine wp_ldc2 (pc := 3) dX12_happen_3 cl_12_333 ?_
            refine wp_cS (pc := 6) dX12_happen_6 lk_12_133 rfl rfl rfl (c_X12_in (fun _ => aK_i ?_) (fun q => absurd (by rw [w_int]; exact c1) q))
            refine wp_if_eq (pc := 9) (tgt := 32) dX12_happen_9 rfl (fun q => absurd q (by decide)) (fun _ => ?_)
            refine wp_iload_n (pc := 12) dX12_happen_12 (by first | rfl | assumption | (repeat first | assumption | rfl | refine aG_n ?_ rfl rfl)) ?_
            refine wp_cS (pc := 13) dX12_happen_13 lk_12_326 rfl rfl rfl (c_X12_isHour (fun _ => aK_i ?_) (fun q => absurd c2 q))
            refine wp_if_eq (pc := 16) (tgt := 32) dX12_happen_16 rfl (fun q => absurd q (by decide)) (fun _ => ?_)
            refine wp_iload_n (pc := 19) dX12_happen_19 (by first | rfl | assumption | (repeat first | assumption | rfl | refine aG_n ?_ rfl rfl)) ?_
            refine wp_i2l (pc := 20) dX12_happen_20 ?_
            refine wp_iload_n (pc := 21) dX12_happen_21 (by first | rfl | assumption | (repeat first | assumption | rfl | refine aG_n ?_ rfl rfl)) ?_
            refine wp_i2l (pc := 22) dX12_happen_22 ?_
            refine wp_ldc2 (pc := 23) dX12_happen_23 cl_12_151 ?_
            refine wp_cS (pc := 26) dX12_happen_26 lk_12_133 rfl rfl rfl (c_X12_in (fun _ => aK_i ?_) (fun q => absurd c5 q))
            refine wp_if_ne (pc := 29) (tgt := 34) dX12_happen_29 rfl (fun _ => ?_) (fun q => absurd q (by decide))
            refine wp_aload_n (pc := 34) dX12_happen_34 (by first | rfl | assumption | (repeat first | assumption | rfl | refine aG_n ?_ rfl rfl)) ?_
            refine wp_getR (pc := 35) dX12_happen_35 fl_12_104 (by first | rfl | assumption | exact sh_house (by omega) | exact sh_wish (by omega) | exact sh_wor (by omega) | exact sh_bar (by omega) | exact sh_term (by omega) | exact sh_sheet (by omega) | exact sh_items (by omega) | exact sh_sums (by omega)) rfl ?_
            refine wp_iload_n (pc := 38) dX12_happen_38 (by first | rfl | assumption | (repeat first | assumption | rfl | refine aG_n ?_ rfl rfl)) ?_
            refine wp_iald (pc := 39) dX12_happen_39 (by first | rfl | assumption | exact sh_house (by omega) | exact sh_wish (by omega) | exact sh_wor (by omega) | exact sh_bar (by omega) | exact sh_term (by omega) | exact sh_sheet (by omega) | exact sh_items (by omega) | exact sh_sums (by omega)) (vp_in_nI (by omega) (by decide)) ?_
            refine wp_bipush (pc := 40) (v := -4) dX12_happen_40 (by decide) ?_
            refine wp_icmp_eq (pc := 42) (tgt := 48) dX12_happen_42 rfl (fun _ => ?_) (fun q => absurd c8 q)
            refine wp_aload_n (pc := 48) dX12_happen_48 (by first | rfl | assumption | (repeat first | assumption | rfl | refine aG_n ?_ rfl rfl)) ?_
            refine wp_getR (pc := 49) dX12_happen_49 fl_12_104 (by first | rfl | assumption | exact sh_house (by omega) | exact sh_wish (by omega) | exact sh_wor (by omega) | exact sh_bar (by omega) | exact sh_term (by omega) | exact sh_sheet (by omega) | exact sh_items (by omega) | exact sh_sums (by omega)) rfl ?_
            refine wp_iload_n (pc := 52) dX12_happen_52 (by first | rfl | assumption | (repeat first | assumption | rfl | refine aG_n ?_ rfl rfl)) ?_
            refine wp_iload_n (pc := 53) dX12_happen_53 (by first | rfl | assumption | (repeat first | assumption | rfl | refine aG_n ?_ rfl rfl)) ?_
            refine wp_iast (pc := 54) dX12_happen_54 (by first | rfl | assumption | exact sh_house (by omega) | exact sh_wish (by omega) | exact sh_wor (by omega) | exact sh_bar (by omega) | exact sh_term (by omega) | exact sh_sheet (by omega) | exact sh_items (by omega) | exact sh_sums (by omega)) (vp_in_nI (by omega) (by decide)) ?_
            refine wp_aload_n (pc := 55) dX12_happen_55 (by first | rfl | assumption | (repeat first | assumption | rfl | refine aG_n ?_ rfl rfl)) ?_
            refine wp_getR (pc := 56) dX12_happen_56 fl_12_107 (by first | rfl | assumption | exact sh_house (by omega) | exact sh_wish (by omega) | exact sh_wor (by omega) | exact sh_bar (by omega) | exact sh_term (by omega) | exact sh_sheet (by omega) | exact sh_items (by omega) | exact sh_sums (by omega)) rfl ?_
            refine wp_iload_n (pc := 59) dX12_happen_59 (by first | rfl | assumption | (repeat first | assumption | rfl | refine aG_n ?_ rfl rfl)) ?_
            refine wp_iload_n (pc := 60) dX12_happen_60 (by first | rfl | assumption | (repeat first | assumption | rfl | refine aG_n ?_ rfl rfl)) ?_
            refine wp_iast (pc := 61) dX12_happen_61 (by first | rfl | assumption | exact sh_house (by omega) | exact sh_wish (by omega) | exact sh_wor (by omega) | exact sh_bar (by omega) | exact sh_term (by omega) | exact sh_sheet (by omega) | exact sh_items (by omega) | exact sh_sums (by omega)) (vp_in_nI (by omega) (by decide)) ?_
            refine wp_iconst (pc := 62) (v := 1) dX12_happen_62 (by decide) ?_
            refine wp_ireturn (pc := 63) dX12_happen_63 rfl (by first | rfl | decide | assumption) ?_
            refine k' _ ?_
            simp (disch := omega) only [nI_clamp]
            refine ⟨own_c (by simp (disch := omega) only [up2_ne, fil_ne]) (fun i9 hi9 => (by simp (disch := omega) only [up2_ne, up2_p, fil_ne, fil_p])) (hI.1), coin_c (by simp (disch := omega) only [up2_ne, fil_ne]) (fun i9 hi9 => (by simp (disch := omega) only [up2_ne, up2_p, fil_ne, fil_p])) (hI.2.1), lev_c ⟨(by simp (disch := omega) only [up2_ne, fil_ne]), (by simp (disch := omega) only [up2_ne, fil_ne]), (by simp (disch := omega) only [up2_ne, fil_ne])⟩ (fun i9 hi9 => ⟨(by simp (disch := omega) only [up2_ne, up2_p, fil_ne, fil_p]), (by simp (disch := omega) only [up2_ne, up2_p, fil_ne, fil_p]), (by simp (disch := omega) only [up2_ne, up2_p, fil_ne, fil_p])⟩) (hI.2.2.1), wish_c ⟨(by simp (disch := omega) only [up2_ne, fil_ne]), (by simp (disch := omega) only [up2_ne, fil_ne]), (by simp (disch := omega) only [up2_ne, fil_ne]), (by simp (disch := omega) only [up2_ne, fil_ne])⟩ (fun i9 hi9 => ⟨(by simp (disch := omega) only [up2_ne, fil_ne]), (by simp (disch := omega) only [up2_ne, fil_ne]), (by simp (disch := omega) only [up2_ne, fil_ne])⟩) (hI.2.2.2.1), tape_c (by simp (disch := omega) only [up2_ne, up2_p, fil_ne, fil_p]) (by simp (disch := omega) only [up2_ne, up2_p, fil_ne, fil_p]) (by simp (disch := omega) only [up2_ne, fil_ne]) (by simp (disch := omega) only [up2_ne, fil_ne]) (hI.2.2.2.2.1), talk_c ⟨(by simp (disch := omega) only [up2_ne, fil_ne]), (by simp (disch := omega) only [up2_ne, fil_ne]), (by simp (disch := omega) only [up2_ne, fil_ne]), (by simp (disch := omega) only [up2_ne, fil_ne]), (by simp (disch := omega) only [up2_ne, fil_ne])⟩ ⟨(by simp (disch := omega) only [up2_ne, fil_ne]), (by simp (disch := omega) only [up2_ne, fil_ne]), (by simp (disch := omega) only [up2_ne, fil_ne])⟩ (fun j9 hj9 hk9 => (by simp (disch := omega) only [up2_ne, up2_p, fil_ne, fil_p])) (fun o9 => ⟨(by simp (disch := omega) only [up2_ne, fil_ne]), (by simp (disch := omega) only [up2_ne, fil_ne])⟩) rfl (hI.2.2.2.2.2.1), ?_, row_c (by simp (disch := omega) only [up2_ne, fil_ne]) (by simp (disch := omega) only [up2_ne, fil_ne]) (hI.2.2.2.2.2.2.2.1), sheet_c ⟨(by simp (disch := omega) only [up2_ne, fil_ne]), (by simp (disch := omega) only [up2_ne, fil_ne]), (by simp (disch := omega) only [up2_ne, fil_ne])⟩ (fun s9 hs9 => ⟨(by simp (disch := omega) only [up2_ne, fil_ne]), (by simp (disch := omega) only [up2_ne, fil_ne])⟩) (hI.2.2.2.2.2.2.2.2.1), grp_c (by simp (disch := omega) only [up2_ne, up2_p, fil_ne, fil_p]) (fun g9 hg9 => (by simp (disch := omega) only [up2_ne, fil_ne])) (fun i9 hi9 => ⟨(by simp (disch := omega) only [up2_ne, fil_ne]), (by simp (disch := omega) only [up2_ne, fil_ne])⟩) (hI.2.2.2.2.2.2.2.2.2)⟩
            obtain ⟨⟨n, a1, a2, a3, a4, a5⟩, a6⟩ := hI.2.2.2.2.2.2.1
            refine ⟨⟨n, a1, ?_, ?_, fun i hi => ?_, fun i hi hk => ?_⟩, fun q hq => ?_⟩
            · simp (disch := omega) only [up2_ne, up2_p]; exact a2
            · simp (disch := omega) only [up2_ne, up2_p]; exact a3
            · simp (disch := omega) only [up2_ne, up2_p]; exact a4 i hi
            · simp (disch := omega) only [up2_ne, up2_p]; exact a5 i hi hk
            · by_cases z : q = j
              · subst z
                simp (disch := omega) only [up2_ne, up2_p, up2_at]
                exact Or.inr ⟨trivial, c2, trivial, c3⟩
              · simp (disch := omega) only [up2_ne, up2_p]
                exact a6 q hq
          · have c7 : ¬ μ.1 118 (nI j).toNatClampNeg = -4 := by
              rw [nI_clamp (by omega)]
              rcases hE with q | q
              · exact absurd q.1 c6
              · intro z; have := q.2.1.1; rw [z] at this; exact absurd this (by decide)
            refine wp_iload_n (pc := 0) dX11_happen_0 (by first | rfl | assumption | (repeat first | assumption | rfl | refine aG_n ?_ rfl rfl)) ?_
            refine wp_cS (pc := 1) dX11_happen_1 lk_11_300 rfl rfl rfl (c_X11_isEvent (fun _ => aK_i ?_) (fun q => absurd c1 q))
            refine wp_if_eq (pc := 4) (tgt := 26) dX11_happen_4 rfl (fun q => absurd q (by decide)) (fun _ => ?_)
            refine wp_iload_n (pc := 7) dX11_happen_7 (by first | rfl | assumption | (repeat first | assumption | rfl | refine aG_n ?_ rfl rfl)) ?_
            refine wp_cS (pc := 8) dX11_happen_8 lk_11_294 rfl rfl rfl (c_X11_isHour (fun _ => aK_i ?_) (fun q => absurd c2 q))
            refine wp_if_eq (pc := 11) (tgt := 26) dX11_happen_11 rfl (fun q => absurd q (by decide)) (fun _ => ?_)
            refine wp_iload_n (pc := 14) dX11_happen_14 (by first | rfl | assumption | (repeat first | assumption | rfl | refine aG_n ?_ rfl rfl)) ?_
            refine wp_cS (pc := 15) dX11_happen_15 lk_11_294 rfl rfl rfl (c_X11_isHour (fun _ => aK_i ?_) (fun q => absurd c3 q))
            refine wp_if_eq (pc := 18) (tgt := 26) dX11_happen_18 rfl (fun q => absurd q (by decide)) (fun _ => ?_)
            refine wp_iload_n (pc := 21) dX11_happen_21 (by first | rfl | assumption | (repeat first | assumption | rfl | refine aG_n ?_ rfl rfl)) ?_
            refine wp_iload_n (pc := 22) dX11_happen_22 (by first | rfl | assumption | (repeat first | assumption | rfl | refine aG_n ?_ rfl rfl)) ?_
            refine wp_icmp_ge (pc := 23) (tgt := 28) dX11_happen_23 rfl (fun _ => ?_) (fun q => absurd c4 q)
            refine wp_aload_n (pc := 28) dX11_happen_28 (by first | rfl | assumption | (repeat first | assumption | rfl | refine aG_n ?_ rfl rfl)) ?_
            refine wp_getR (pc := 29) dX11_happen_29 fl_11_53 (by first | rfl | assumption | exact sh_house (by omega) | exact sh_wish (by omega) | exact sh_wor (by omega) | exact sh_bar (by omega) | exact sh_term (by omega) | exact sh_sheet (by omega) | exact sh_items (by omega) | exact sh_sums (by omega)) rfl ?_
            refine wp_iload_n (pc := 32) dX11_happen_32 (by first | rfl | assumption | (repeat first | assumption | rfl | refine aG_n ?_ rfl rfl)) ?_
            refine wp_cV (pc := 33) dX11_happen_33 lk_11_306 rfl (by decide) rfl (by first | rfl | assumption | exact sh_house (by omega) | exact sh_wish (by omega) | exact sh_wor (by omega) | exact sh_bar (by omega) | exact sh_term (by omega) | exact sh_sheet (by omega) | exact sh_items (by omega) | exact sh_sums (by omega)) rfl rfl ?_
            refine wp_aload_n (pc := 0) dX2_hasHappened_0 (by first | rfl | assumption | (repeat first | assumption | rfl | refine aG_n ?_ rfl rfl)) ?_
            refine wp_getR (pc := 1) dX2_hasHappened_1 fl_2_21 (by first | rfl | assumption | exact sh_house (by omega) | exact sh_wish (by omega) | exact sh_wor (by omega) | exact sh_bar (by omega) | exact sh_term (by omega) | exact sh_sheet (by omega) | exact sh_items (by omega) | exact sh_sums (by omega)) rfl ?_
            refine wp_iload_n (pc := 4) dX2_hasHappened_4 (by first | rfl | assumption | (repeat first | assumption | rfl | refine aG_n ?_ rfl rfl)) ?_
            refine wp_iald (pc := 5) dX2_hasHappened_5 (by first | rfl | assumption | exact sh_house (by omega) | exact sh_wish (by omega) | exact sh_wor (by omega) | exact sh_bar (by omega) | exact sh_term (by omega) | exact sh_sheet (by omega) | exact sh_items (by omega) | exact sh_sums (by omega)) (vp_in_nI (by omega) (by decide)) ?_
            refine wp_iconst (pc := 6) (v := -1) dX2_hasHappened_6 (by decide) ?_
            refine wp_icmp_eq (pc := 7) (tgt := 14) dX2_hasHappened_7 rfl (fun q => absurd q (by rw [nI_clamp (by omega)]; exact c6)) (fun _ => ?_)
            refine wp_iconst (pc := 10) (v := 1) dX2_hasHappened_10 (by decide) ?_
            refine wp_goto (pc := 11) (tgt := 15) dX2_hasHappened_11 rfl ?_
            refine wp_iretK (pc := 15) dX2_hasHappened_15 rfl (by first | rfl | decide | assumption) ?_
            refine wp_if_eq (pc := 36) (tgt := 42) dX11_happen_36 rfl (fun q => absurd q (by decide)) (fun _ => ?_)
            refine wp_bipush (pc := 39) (v := -2) dX11_happen_39 (by decide) ?_
            refine wp_ireturn (pc := 41) dX11_happen_41 rfl (by first | rfl | decide | assumption) ?_
            refine k _ _ (fun Q' k' => ?_)
            refine wp_iload_n (pc := 0) dX12_happen_0 (by first | rfl | assumption | (repeat first | assumption | rfl | refine aG_n ?_ rfl rfl)) ?_
            refine wp_i2l (pc := 1) dX12_happen_1 ?_
            refine wp_lconst (pc := 2) (v := 0) dX12_happen_2 (by decide) ?_
            refine wp_ldc2 (pc := 3) dX12_happen_3 cl_12_333 ?_
            refine wp_cS (pc := 6) dX12_happen_6 lk_12_133 rfl rfl rfl (c_X12_in (fun _ => aK_i ?_) (fun q => absurd (by rw [w_int]; exact c1) q))
            refine wp_if_eq (pc := 9) (tgt := 32) dX12_happen_9 rfl (fun q => absurd q (by decide)) (fun _ => ?_)
            refine wp_iload_n (pc := 12) dX12_happen_12 (by first | rfl | assumption | (repeat first | assumption | rfl | refine aG_n ?_ rfl rfl)) ?_
            refine wp_cS (pc := 13) dX12_happen_13 lk_12_326 rfl rfl rfl (c_X12_isHour (fun _ => aK_i ?_) (fun q => absurd c2 q))
            refine wp_if_eq (pc := 16) (tgt := 32) dX12_happen_16 rfl (fun q => absurd q (by decide)) (fun _ => ?_)
            refine wp_iload_n (pc := 19) dX12_happen_19 (by first | rfl | assumption | (repeat first | assumption | rfl | refine aG_n ?_ rfl rfl)) ?_
            refine wp_i2l (pc := 20) dX12_happen_20 ?_
            refine wp_iload_n (pc := 21) dX12_happen_21 (by first | rfl | assumption | (repeat first | assumption | rfl | refine aG_n ?_ rfl rfl)) ?_
            refine wp_i2l (pc := 22) dX12_happen_22 ?_
            refine wp_ldc2 (pc := 23) dX12_happen_23 cl_12_151 ?_
            refine wp_cS (pc := 26) dX12_happen_26 lk_12_133 rfl rfl rfl (c_X12_in (fun _ => aK_i ?_) (fun q => absurd c5 q))
            refine wp_if_ne (pc := 29) (tgt := 34) dX12_happen_29 rfl (fun _ => ?_) (fun q => absurd q (by decide))
            refine wp_aload_n (pc := 34) dX12_happen_34 (by first | rfl | assumption | (repeat first | assumption | rfl | refine aG_n ?_ rfl rfl)) ?_
            refine wp_getR (pc := 35) dX12_happen_35 fl_12_104 (by first | rfl | assumption | exact sh_house (by omega) | exact sh_wish (by omega) | exact sh_wor (by omega) | exact sh_bar (by omega) | exact sh_term (by omega) | exact sh_sheet (by omega) | exact sh_items (by omega) | exact sh_sums (by omega)) rfl ?_
            refine wp_iload_n (pc := 38) dX12_happen_38 (by first | rfl | assumption | (repeat first | assumption | rfl | refine aG_n ?_ rfl rfl)) ?_
            refine wp_iald (pc := 39) dX12_happen_39 (by first | rfl | assumption | exact sh_house (by omega) | exact sh_wish (by omega) | exact sh_wor (by omega) | exact sh_bar (by omega) | exact sh_term (by omega) | exact sh_sheet (by omega) | exact sh_items (by omega) | exact sh_sums (by omega)) (vp_in_nI (by omega) (by decide)) ?_
            refine wp_bipush (pc := 40) (v := -4) dX12_happen_40 (by decide) ?_
            refine wp_icmp_eq (pc := 42) (tgt := 48) dX12_happen_42 rfl (fun q => absurd q c7) (fun _ => ?_)
            refine wp_bipush (pc := 45) (v := -2) dX12_happen_45 (by decide) ?_
            refine wp_ireturn (pc := 47) dX12_happen_47 rfl (by first | rfl | decide | assumption) ?_
            exact k' _ hI
        · have c5 : ¬ (h.toInt64.toInt ≤ w.toInt64.toInt ∧ w.toInt64.toInt ≤ (9999 : Int64).toInt) := by rw [w_int, w_int]; exact fun z => c4 ((i_le _ _).mpr z.1)
          refine wp_iload_n (pc := 0) dX11_happen_0 (by first | rfl | assumption | (repeat first | assumption | rfl | refine aG_n ?_ rfl rfl)) ?_
          refine wp_cS (pc := 1) dX11_happen_1 lk_11_300 rfl rfl rfl (c_X11_isEvent (fun _ => aK_i ?_) (fun q => absurd c1 q))
          refine wp_if_eq (pc := 4) (tgt := 26) dX11_happen_4 rfl (fun q => absurd q (by decide)) (fun _ => ?_)
          refine wp_iload_n (pc := 7) dX11_happen_7 (by first | rfl | assumption | (repeat first | assumption | rfl | refine aG_n ?_ rfl rfl)) ?_
          refine wp_cS (pc := 8) dX11_happen_8 lk_11_294 rfl rfl rfl (c_X11_isHour (fun _ => aK_i ?_) (fun q => absurd c2 q))
          refine wp_if_eq (pc := 11) (tgt := 26) dX11_happen_11 rfl (fun q => absurd q (by decide)) (fun _ => ?_)
          refine wp_iload_n (pc := 14) dX11_happen_14 (by first | rfl | assumption | (repeat first | assumption | rfl | refine aG_n ?_ rfl rfl)) ?_
          refine wp_cS (pc := 15) dX11_happen_15 lk_11_294 rfl rfl rfl (c_X11_isHour (fun _ => aK_i ?_) (fun q => absurd c3 q))
          refine wp_if_eq (pc := 18) (tgt := 26) dX11_happen_18 rfl (fun q => absurd q (by decide)) (fun _ => ?_)
          refine wp_iload_n (pc := 21) dX11_happen_21 (by first | rfl | assumption | (repeat first | assumption | rfl | refine aG_n ?_ rfl rfl)) ?_
          refine wp_iload_n (pc := 22) dX11_happen_22 (by first | rfl | assumption | (repeat first | assumption | rfl | refine aG_n ?_ rfl rfl)) ?_
          refine wp_icmp_ge (pc := 23) (tgt := 28) dX11_happen_23 rfl (fun q => absurd q c4) (fun _ => ?_)
          refine wp_iconst (pc := 26) (v := -1) dX11_happen_26 (by decide) ?_
          refine wp_ireturn (pc := 27) dX11_happen_27 rfl (by first | rfl | decide | assumption) ?_
          refine k _ _ (fun Q' k' => ?_)
          refine wp_iload_n (pc := 0) dX12_happen_0 (by first | rfl | assumption | (repeat first | assumption | rfl | refine aG_n ?_ rfl rfl)) ?_
          refine wp_i2l (pc := 1) dX12_happen_1 ?_
          refine wp_lconst (pc := 2) (v := 0) dX12_happen_2 (by decide) ?_
          refine wp_ldc2 (pc := 3) dX12_happen_3 cl_12_333 ?_
          refine wp_cS (pc := 6) dX12_happen_6 lk_12_133 rfl rfl rfl (c_X12_in (fun _ => aK_i ?_) (fun q => absurd (by rw [w_int]; exact c1) q))
          refine wp_if_eq (pc := 9) (tgt := 32) dX12_happen_9 rfl (fun q => absurd q (by decide)) (fun _ => ?_)
          refine wp_iload_n (pc := 12) dX12_happen_12 (by first | rfl | assumption | (repeat first | assumption | rfl | refine aG_n ?_ rfl rfl)) ?_
          refine wp_cS (pc := 13) dX12_happen_13 lk_12_326 rfl rfl rfl (c_X12_isHour (fun _ => aK_i ?_) (fun q => absurd c2 q))
          refine wp_if_eq (pc := 16) (tgt := 32) dX12_happen_16 rfl (fun q => absurd q (by decide)) (fun _ => ?_)
          refine wp_iload_n (pc := 19) dX12_happen_19 (by first | rfl | assumption | (repeat first | assumption | rfl | refine aG_n ?_ rfl rfl)) ?_
          refine wp_i2l (pc := 20) dX12_happen_20 ?_
          refine wp_iload_n (pc := 21) dX12_happen_21 (by first | rfl | assumption | (repeat first | assumption | rfl | refine aG_n ?_ rfl rfl)) ?_
          refine wp_i2l (pc := 22) dX12_happen_22 ?_
          refine wp_ldc2 (pc := 23) dX12_happen_23 cl_12_151 ?_
          refine wp_cS (pc := 26) dX12_happen_26 lk_12_133 rfl rfl rfl (c_X12_in (fun q => absurd q c5) (fun _ => aK_i ?_))
          refine wp_if_ne (pc := 29) (tgt := 34) dX12_happen_29 rfl (fun q => absurd q (by decide)) (fun _ => ?_)
          refine wp_iconst (pc := 32) (v := -1) dX12_happen_32 (by decide) ?_
          refine wp_ireturn (pc := 33) dX12_happen_33 rfl (by first | rfl | decide | assumption) ?_
          exact k' _ hI
      · have c5 : ¬ (h.toInt64.toInt ≤ w.toInt64.toInt ∧ w.toInt64.toInt ≤ (9999 : Int64).toInt) := by rw [w_int, w_int]; exact fun z => c3 ⟨by have := c2.1; omega, z.2⟩
        refine wp_iload_n (pc := 0) dX11_happen_0 (by first | rfl | assumption | (repeat first | assumption | rfl | refine aG_n ?_ rfl rfl)) ?_
        refine wp_cS (pc := 1) dX11_happen_1 lk_11_300 rfl rfl rfl (c_X11_isEvent (fun _ => aK_i ?_) (fun q => absurd c1 q))
        refine wp_if_eq (pc := 4) (tgt := 26) dX11_happen_4 rfl (fun q => absurd q (by decide)) (fun _ => ?_)
        refine wp_iload_n (pc := 7) dX11_happen_7 (by first | rfl | assumption | (repeat first | assumption | rfl | refine aG_n ?_ rfl rfl)) ?_
        refine wp_cS (pc := 8) dX11_happen_8 lk_11_294 rfl rfl rfl (c_X11_isHour (fun _ => aK_i ?_) (fun q => absurd c2 q))
        refine wp_if_eq (pc := 11) (tgt := 26) dX11_happen_11 rfl (fun q => absurd q (by decide)) (fun _ => ?_)
        refine wp_iload_n (pc := 14) dX11_happen_14 (by first | rfl | assumption | (repeat first | assumption | rfl | refine aG_n ?_ rfl rfl)) ?_
        refine wp_cS (pc := 15) dX11_happen_15 lk_11_294 rfl rfl rfl (c_X11_isHour (fun q => absurd q c3) (fun _ => aK_i ?_))
        refine wp_if_eq (pc := 18) (tgt := 26) dX11_happen_18 rfl (fun _ => ?_) (fun q => absurd q (by decide))
        refine wp_iconst (pc := 26) (v := -1) dX11_happen_26 (by decide) ?_
        refine wp_ireturn (pc := 27) dX11_happen_27 rfl (by first | rfl | decide | assumption) ?_
        refine k _ _ (fun Q' k' => ?_)
        refine wp_iload_n (pc := 0) dX12_happen_0 (by first | rfl | assumption | (repeat first | assumption | rfl | refine aG_n ?_ rfl rfl)) ?_
        refine wp_i2l (pc := 1) dX12_happen_1 ?_
        refine wp_lconst (pc := 2) (v := 0) dX12_happen_2 (by decide) ?_
        refine wp_ldc2 (pc := 3) dX12_happen_3 cl_12_333 ?_
        refine wp_cS (pc := 6) dX12_happen_6 lk_12_133 rfl rfl rfl (c_X12_in (fun _ => aK_i ?_) (fun q => absurd (by rw [w_int]; exact c1) q))
        refine wp_if_eq (pc := 9) (tgt := 32) dX12_happen_9 rfl (fun q => absurd q (by decide)) (fun _ => ?_)
        refine wp_iload_n (pc := 12) dX12_happen_12 (by first | rfl | assumption | (repeat first | assumption | rfl | refine aG_n ?_ rfl rfl)) ?_
        refine wp_cS (pc := 13) dX12_happen_13 lk_12_326 rfl rfl rfl (c_X12_isHour (fun _ => aK_i ?_) (fun q => absurd c2 q))
        refine wp_if_eq (pc := 16) (tgt := 32) dX12_happen_16 rfl (fun q => absurd q (by decide)) (fun _ => ?_)
        refine wp_iload_n (pc := 19) dX12_happen_19 (by first | rfl | assumption | (repeat first | assumption | rfl | refine aG_n ?_ rfl rfl)) ?_
        refine wp_i2l (pc := 20) dX12_happen_20 ?_
        refine wp_iload_n (pc := 21) dX12_happen_21 (by first | rfl | assumption | (repeat first | assumption | rfl | refine aG_n ?_ rfl rfl)) ?_
        refine wp_i2l (pc := 22) dX12_happen_22 ?_
        refine wp_ldc2 (pc := 23) dX12_happen_23 cl_12_151 ?_
        refine wp_cS (pc := 26) dX12_happen_26 lk_12_133 rfl rfl rfl (c_X12_in (fun q => absurd q c5) (fun _ => aK_i ?_))
        refine wp_if_ne (pc := 29) (tgt := 34) dX12_happen_29 rfl (fun q => absurd q (by decide)) (fun _ => ?_)
        refine wp_iconst (pc := 32) (v := -1) dX12_happen_32 (by decide) ?_
        refine wp_ireturn (pc := 33) dX12_happen_33 rfl (by first | rfl | decide | assumption) ?_
        exact k' _ hI
    · skip
      refine wp_iload_n (pc := 0) dX11_happen_0 (by first | rfl | assumption | (repeat first | assumption | rfl | refine aG_n ?_ rfl rfl)) ?_
      refine wp_cS (pc := 1) dX11_happen_1 lk_11_300 rfl rfl rfl (c_X11_isEvent (fun _ => aK_i ?_) (fun q => absurd c1 q))
      refine wp_if_eq (pc := 4) (tgt := 26) dX11_happen_4 rfl (fun q => absurd q (by decide)) (fun _ => ?_)
      refine wp_iload_n (pc := 7) dX11_happen_7 (by first | rfl | assumption | (repeat first | assumption | rfl | refine aG_n ?_ rfl rfl)) ?_
      refine wp_cS (pc := 8) dX11_happen_8 lk_11_294 rfl rfl rfl (c_X11_isHour (fun q => absurd q c2) (fun _ => aK_i ?_))
      refine wp_if_eq (pc := 11) (tgt := 26) dX11_happen_11 rfl (fun _ => ?_) (fun q => absurd q (by decide))
      refine wp_iconst (pc := 26) (v := -1) dX11_happen_26 (by decide) ?_
      refine wp_ireturn (pc := 27) dX11_happen_27 rfl (by first | rfl | decide | assumption) ?_
      refine k _ _ (fun Q' k' => ?_)
      refine wp_iload_n (pc := 0) dX12_happen_0 (by first | rfl | assumption | (repeat first | assumption | rfl | refine aG_n ?_ rfl rfl)) ?_
      refine wp_i2l (pc := 1) dX12_happen_1 ?_
      refine wp_lconst (pc := 2) (v := 0) dX12_happen_2 (by decide) ?_
      refine wp_ldc2 (pc := 3) dX12_happen_3 cl_12_333 ?_
      refine wp_cS (pc := 6) dX12_happen_6 lk_12_133 rfl rfl rfl (c_X12_in (fun _ => aK_i ?_) (fun q => absurd (by rw [w_int]; exact c1) q))
      refine wp_if_eq (pc := 9) (tgt := 32) dX12_happen_9 rfl (fun q => absurd q (by decide)) (fun _ => ?_)
      refine wp_iload_n (pc := 12) dX12_happen_12 (by first | rfl | assumption | (repeat first | assumption | rfl | refine aG_n ?_ rfl rfl)) ?_
      refine wp_cS (pc := 13) dX12_happen_13 lk_12_326 rfl rfl rfl (c_X12_isHour (fun q => absurd q c2) (fun _ => aK_i ?_))
      refine wp_if_eq (pc := 16) (tgt := 32) dX12_happen_16 rfl (fun _ => ?_) (fun q => absurd q (by decide))
      refine wp_iconst (pc := 32) (v := -1) dX12_happen_32 (by decide) ?_
      refine wp_ireturn (pc := 33) dX12_happen_33 rfl (by first | rfl | decide | assumption) ?_
      exact k' _ hI
  · skip
    refine wp_iload_n (pc := 0) dX11_happen_0 (by first | rfl | assumption | (repeat first | assumption | rfl | refine aG_n ?_ rfl rfl)) ?_
    refine wp_cS (pc := 1) dX11_happen_1 lk_11_300 rfl rfl rfl (c_X11_isEvent (fun q => absurd q c1) (fun _ => aK_i ?_))
    refine wp_if_eq (pc := 4) (tgt := 26) dX11_happen_4 rfl (fun _ => ?_) (fun q => absurd q (by decide))
    refine wp_iconst (pc := 26) (v := -1) dX11_happen_26 (by decide) ?_
    refine wp_ireturn (pc := 27) dX11_happen_27 rfl (by first | rfl | decide | assumption) ?_
    refine k _ _ (fun Q' k' => ?_)
    refine wp_iload_n (pc := 0) dX12_happen_0 (by first | rfl | assumption | (repeat first | assumption | rfl | refine aG_n ?_ rfl rfl)) ?_
    refine wp_i2l (pc := 1) dX12_happen_1 ?_
    refine wp_lconst (pc := 2) (v := 0) dX12_happen_2 (by decide) ?_
    refine wp_ldc2 (pc := 3) dX12_happen_3 cl_12_333 ?_
    refine wp_cS (pc := 6) dX12_happen_6 lk_12_133 rfl rfl rfl (c_X12_in (fun q => absurd q (by rw [w_int]; exact c1)) (fun _ => aK_i ?_))
    refine wp_if_eq (pc := 9) (tgt := 32) dX12_happen_9 rfl (fun _ => ?_) (fun q => absurd q (by decide))
    refine wp_iconst (pc := 32) (v := -1) dX12_happen_32 (by decide) ?_
    refine wp_ireturn (pc := 33) dX12_happen_33 rfl (by first | rfl | decide | assumption) ?_
    exact k' _ hI

theorem th_dis {M : MM} {i j : Nat} (hO : (∀ t, t < 6 → ∃ j, j < 4 ∧ M 87 t = nI j) ∧ True) (hi : i < 4) (hj : j < 4) (hij : i ≠ j) : th M i &&& th M j = 0 := by
  apply Nat.eq_of_testBit_eq
  intro t
  rw [Nat.testBit_and, Nat.zero_testBit]
  by_cases ht : t < 6
  · rw [tsF_bit _ _ 6 t ht, tsF_bit _ _ 6 t ht]
    obtain ⟨q, hq, e⟩ := hO.1 t ht
    simp only [e, nI_eq (show q < 2 ^ 31 by omega) (show i < 2 ^ 31 by omega), nI_eq (show q < 2 ^ 31 by omega) (show j < 2 ^ 31 by omega)]
    by_cases z : q = i
    · have : ¬ q = j := by omega
      simp [this]
    · simp [z]
  · rw [bit_hi (th_lt M i) (by omega)]; rfl
theorem J_walk : Jnt mX11_walk mX12_walk [] := by
  intro X μ Q hI k
  have hT := hI.2.2.2.2.2.1
  obtain ⟨t1, t2, t3, t4, w, hw, t6, t7, t8⟩ := id hT
  have t36 : μ.1 73 3 = nI w := t3.trans t6
  have hk75 : ∀ q, q < 20 → μ.1 75 q = μ.1 100 q := fun q hq => (t4 q hq).1
  by_cases ho : μ.1 86 15 = 1
  · skip
    have hc : μ.1 73 0 = 1 := t1.trans ho
    obtain ⟨a, b, mo, ⟨ha, hb, hab⟩, ⟨d21, d22, d23, d24⟩, ⟨d31, d32, d33, d34, d35⟩, d4, d5, d6, d7, d8, d9, d10⟩ := t8 (by rw [ho]; decide)
    have hlt := d35 ho
    refine wp_aload_n (pc := 0) dX11_walk_0 (by first | rfl | assumption | (repeat first | assumption | rfl | refine aG_n ?_ rfl rfl)) ?_
    refine wp_getR (pc := 1) dX11_walk_1 fl_11_92 (by first | rfl | assumption | exact sh_house (by omega) | exact sh_wish (by omega) | exact sh_wor (by omega) | exact sh_bar (by omega) | exact sh_term (by omega) | exact sh_sheet (by omega) | exact sh_items (by omega) | exact sh_sums (by omega)) rfl ?_
    refine wp_cV (pc := 4) dX11_walk_4 lk_11_104 rfl (by decide) rfl (by first | rfl | assumption | exact sh_house (by omega) | exact sh_wish (by omega) | exact sh_wor (by omega) | exact sh_bar (by omega) | exact sh_term (by omega) | exact sh_sheet (by omega) | exact sh_items (by omega) | exact sh_sums (by omega)) rfl rfl (c_X7_isOpen (fun _ => aK_i ?_) (fun q => absurd hc q))
    refine wp_if_ne (pc := 7) (tgt := 13) dX11_walk_7 rfl (fun _ => ?_) (fun q => absurd q (by decide))
    refine wp_aload_n (pc := 13) dX11_walk_13 (by first | rfl | assumption | (repeat first | assumption | rfl | refine aG_n ?_ rfl rfl)) ?_
    refine wp_getR (pc := 14) dX11_walk_14 fl_11_92 (by first | rfl | assumption | exact sh_house (by omega) | exact sh_wish (by omega) | exact sh_wor (by omega) | exact sh_bar (by omega) | exact sh_term (by omega) | exact sh_sheet (by omega) | exact sh_items (by omega) | exact sh_sums (by omega)) rfl ?_
    refine wp_iconst (pc := 17) (v := 4) dX11_walk_17 (by decide) ?_
    refine wp_iconst (pc := 18) (v := 0) dX11_walk_18 (by decide) ?_
    refine wp_iconst (pc := 19) (v := 0) dX11_walk_19 (by decide) ?_
    refine wp_cV (pc := 20) dX11_walk_20 lk_11_215 rfl (by decide) rfl (by first | rfl | assumption | exact sh_house (by omega) | exact sh_wish (by omega) | exact sh_wor (by omega) | exact sh_bar (by omega) | exact sh_term (by omega) | exact sh_sheet (by omega) | exact sh_items (by omega) | exact sh_sums (by omega)) rfl rfl (c_X7_add (kd := 4) (st := 0) (pr := 0) hc t36 d31 hlt d33 (aK_v ?_))
    refine wp_aload_n (pc := 23) dX11_walk_23 (by first | rfl | assumption | (repeat first | assumption | rfl | refine aG_n ?_ rfl rfl)) ?_
    refine wp_getR (pc := 24) dX11_walk_24 fl_11_92 (by first | rfl | assumption | exact sh_house (by omega) | exact sh_wish (by omega) | exact sh_wor (by omega) | exact sh_bar (by omega) | exact sh_term (by omega) | exact sh_sheet (by omega) | exact sh_items (by omega) | exact sh_sums (by omega)) rfl ?_
    refine wp_getI (pc := 27) dX11_walk_27 fl_11_209 (by first | rfl | assumption | exact sh_house (by omega) | exact sh_wish (by omega) | exact sh_wor (by omega) | exact sh_bar (by omega) | exact sh_term (by omega) | exact sh_sheet (by omega) | exact sh_items (by omega) | exact sh_sums (by omega)) rfl ?_
    refine wp_ireturn (pc := 30) dX11_walk_30 rfl (by first | rfl | decide | assumption) ?_
    refine k _ _ (fun Q' k' => ?_)
    have s1 : (addM μ.1 w 4 0 0 (zOf 4 w mo)) 86 15 = 1 := by rw [addM_ne (by omega)]; exact ho
    have s2 : (addM μ.1 w 4 0 0 (zOf 4 w mo)) 86 19 = nI w := by rw [addM_ne (by omega)]; exact t6
    have s3 : (addM μ.1 w 4 0 0 (zOf 4 w mo)) 86 18 = nI mo := by rw [addM_ne (by omega)]; exact d32
    refine wp_aload_n (pc := 0) dX12_walk_0 (by first | rfl | assumption | (repeat first | assumption | rfl | refine aG_n ?_ rfl rfl)) ?_
    refine wp_cV (pc := 1) dX12_walk_1 lk_12_147 rfl (by decide) rfl (by first | rfl | assumption | exact sh_house (by omega) | exact sh_wish (by omega) | exact sh_wor (by omega) | exact sh_bar (by omega) | exact sh_term (by omega) | exact sh_sheet (by omega) | exact sh_items (by omega) | exact sh_sums (by omega)) rfl rfl (c_X12_isTalking (fun _ => aK_i ?_) (fun q => absurd s1 q))
    refine wp_if_ne (pc := 4) (tgt := 10) dX12_walk_4 rfl (fun _ => ?_) (fun q => absurd q (by decide))
    refine wp_aload_n (pc := 10) dX12_walk_10 (by first | rfl | assumption | (repeat first | assumption | rfl | refine aG_n ?_ rfl rfl)) ?_
    refine wp_iconst (pc := 11) (v := 4) dX12_walk_11 (by decide) ?_
    refine wp_iconst (pc := 12) (v := 0) dX12_walk_12 (by decide) ?_
    refine wp_iconst (pc := 13) (v := 0) dX12_walk_13 (by decide) ?_
    refine wp_cV (pc := 14) dX12_walk_14 lk_12_262 rfl (by decide) rfl (by first | rfl | assumption | exact sh_house (by omega) | exact sh_wish (by omega) | exact sh_wor (by omega) | exact sh_bar (by omega) | exact sh_term (by omega) | exact sh_sheet (by omega) | exact sh_items (by omega) | exact sh_sums (by omega)) rfl rfl (c_X12_say s2 s1 s3 hlt d33 (aK_v ?_))
    refine wp_aload_n (pc := 17) dX12_walk_17 (by first | rfl | assumption | (repeat first | assumption | rfl | refine aG_n ?_ rfl rfl)) ?_
    refine wp_getI (pc := 18) dX12_walk_18 fl_12_244 (by first | rfl | assumption | exact sh_house (by omega) | exact sh_wish (by omega) | exact sh_wor (by omega) | exact sh_bar (by omega) | exact sh_term (by omega) | exact sh_sheet (by omega) | exact sh_items (by omega) | exact sh_sums (by omega)) rfl ?_
    refine wp_ireturn (pc := 21) dX12_walk_21 rfl (by first | rfl | decide | assumption) ?_
    refine qEq ?_ (k' _ (Inv_say hI ho t6 hw d32 d33 (by unfold inR; decide) (fun z => absurd z (by decide)) (fun _ => ⟨rfl, rfl⟩) (fun z => absurd z (by decide))))
    simp (disch := omega) only [sayM, addM, up2_ne, up2_p, up2_at]
  · skip
    have hc : ¬ μ.1 73 0 = 1 := fun z => ho (t1.symm.trans z)
    refine wp_aload_n (pc := 0) dX11_walk_0 (by first | rfl | assumption | (repeat first | assumption | rfl | refine aG_n ?_ rfl rfl)) ?_
    refine wp_getR (pc := 1) dX11_walk_1 fl_11_92 (by first | rfl | assumption | exact sh_house (by omega) | exact sh_wish (by omega) | exact sh_wor (by omega) | exact sh_bar (by omega) | exact sh_term (by omega) | exact sh_sheet (by omega) | exact sh_items (by omega) | exact sh_sums (by omega)) rfl ?_
    refine wp_cV (pc := 4) dX11_walk_4 lk_11_104 rfl (by decide) rfl (by first | rfl | assumption | exact sh_house (by omega) | exact sh_wish (by omega) | exact sh_wor (by omega) | exact sh_bar (by omega) | exact sh_term (by omega) | exact sh_sheet (by omega) | exact sh_items (by omega) | exact sh_sums (by omega)) rfl rfl (c_X7_isOpen (fun q => absurd q hc) (fun _ => aK_i ?_))
    refine wp_if_ne (pc := 7) (tgt := 13) dX11_walk_7 rfl (fun q => absurd q (by decide)) (fun _ => ?_)
    refine wp_bipush (pc := 10) (v := -2) dX11_walk_10 (by decide) ?_
    refine wp_ireturn (pc := 12) dX11_walk_12 rfl (by first | rfl | decide | assumption) ?_
    refine k _ _ (fun Q' k' => ?_)
    refine wp_aload_n (pc := 0) dX12_walk_0 (by first | rfl | assumption | (repeat first | assumption | rfl | refine aG_n ?_ rfl rfl)) ?_
    refine wp_cV (pc := 1) dX12_walk_1 lk_12_147 rfl (by decide) rfl (by first | rfl | assumption | exact sh_house (by omega) | exact sh_wish (by omega) | exact sh_wor (by omega) | exact sh_bar (by omega) | exact sh_term (by omega) | exact sh_sheet (by omega) | exact sh_items (by omega) | exact sh_sums (by omega)) rfl rfl (c_X12_isTalking (fun q => absurd q ho) (fun _ => aK_i ?_))
    refine wp_if_ne (pc := 4) (tgt := 10) dX12_walk_4 rfl (fun q => absurd q (by decide)) (fun _ => ?_)
    refine wp_bipush (pc := 7) (v := -2) dX12_walk_7 (by decide) ?_
    refine wp_ireturn (pc := 9) dX12_walk_9 rfl (by first | rfl | decide | assumption) ?_
    exact k' _ hI
theorem J_ask (t : Int32) : Jnt mX11_ask mX12_ask [.int t] := by
  intro X μ Q hI k
  have hT := hI.2.2.2.2.2.1
  obtain ⟨t1, t2, t3, t4, w, hw, t6, t7, t8⟩ := id hT
  have t36 : μ.1 73 3 = nI w := t3.trans t6
  have hk75 : ∀ q, q < 20 → μ.1 75 q = μ.1 100 q := fun q hq => (t4 q hq).1
  by_cases c1 : inR t 0 5
  · by_cases ho : μ.1 86 15 = 1
    · skip
      have hc : μ.1 73 0 = 1 := t1.trans ho
      obtain ⟨a, b, mo, ⟨ha, hb, hab⟩, ⟨d21, d22, d23, d24⟩, ⟨d31, d32, d33, d34, d35⟩, d4, d5, d6, d7, d8, d9, d10⟩ := t8 (by rw [ho]; decide)
      have hlt := d35 ho
      obtain ⟨q, hq, rfl⟩ := inR_of (n := 5) c1
      have hq6 : q < 6 := by omega
      have hO := hI.1
      obtain ⟨z, hz, ez⟩ := hO.1 q hq6
      have cq : (nI q).toNatClampNeg = q := nI_clamp (by omega)
      have e1 : μ.1 73 3 + 1 = nI (w + 1) := by rw [t36, nI_1]
      have ep : (if (w + 1) % 2 = 0 then μ.1 73 1 else μ.1 73 2) = if (w + 1) % 2 = 0 then nI a else nI b := by rw [d21, d23]
      by_cases c2 : nI z = if (w + 1) % 2 = 0 then nI a else nI b
      · skip
        refine wp_iload_n (pc := 0) dX11_ask_0 (by first | rfl | assumption | (repeat first | assumption | rfl | refine aG_n ?_ rfl rfl)) ?_
        refine wp_cS (pc := 1) dX11_ask_1 lk_11_97 rfl rfl rfl (c_X11_isThing (fun _ => aK_i ?_) (fun q => absurd c1 q))
        refine wp_if_ne (pc := 4) (tgt := 9) dX11_ask_4 rfl (fun _ => ?_) (fun q => absurd q (by decide))
        refine wp_aload_n (pc := 9) dX11_ask_9 (by first | rfl | assumption | (repeat first | assumption | rfl | refine aG_n ?_ rfl rfl)) ?_
        refine wp_getR (pc := 10) dX11_ask_10 fl_11_92 (by first | rfl | assumption | exact sh_house (by omega) | exact sh_wish (by omega) | exact sh_wor (by omega) | exact sh_bar (by omega) | exact sh_term (by omega) | exact sh_sheet (by omega) | exact sh_items (by omega) | exact sh_sums (by omega)) rfl ?_
        refine wp_cV (pc := 13) dX11_ask_13 lk_11_104 rfl (by decide) rfl (by first | rfl | assumption | exact sh_house (by omega) | exact sh_wish (by omega) | exact sh_wor (by omega) | exact sh_bar (by omega) | exact sh_term (by omega) | exact sh_sheet (by omega) | exact sh_items (by omega) | exact sh_sums (by omega)) rfl rfl (c_X7_isOpen (fun _ => aK_i ?_) (fun q => absurd hc q))
        refine wp_if_eq (pc := 16) (tgt := 43) dX11_ask_16 rfl (fun q => absurd q (by decide)) (fun _ => ?_)
        refine wp_aload_n (pc := 19) dX11_ask_19 (by first | rfl | assumption | (repeat first | assumption | rfl | refine aG_n ?_ rfl rfl)) ?_
        refine wp_iload_n (pc := 20) dX11_ask_20 (by first | rfl | assumption | (repeat first | assumption | rfl | refine aG_n ?_ rfl rfl)) ?_
        refine wp_cV (pc := 21) dX11_ask_21 lk_11_108 rfl (by decide) rfl (by first | rfl | assumption | exact sh_house (by omega) | exact sh_wish (by omega) | exact sh_wor (by omega) | exact sh_bar (by omega) | exact sh_term (by omega) | exact sh_sheet (by omega) | exact sh_items (by omega) | exact sh_sums (by omega)) rfl rfl (c_X11_ownerOf hO hq6 ez hz (aK_i ?_))
        refine wp_aload_n (pc := 24) dX11_ask_24 (by first | rfl | assumption | (repeat first | assumption | rfl | refine aG_n ?_ rfl rfl)) ?_
        refine wp_getR (pc := 25) dX11_ask_25 fl_11_92 (by first | rfl | assumption | exact sh_house (by omega) | exact sh_wish (by omega) | exact sh_wor (by omega) | exact sh_bar (by omega) | exact sh_term (by omega) | exact sh_sheet (by omega) | exact sh_items (by omega) | exact sh_sums (by omega)) rfl ?_
        refine wp_aload_n (pc := 28) dX11_ask_28 (by first | rfl | assumption | (repeat first | assumption | rfl | refine aG_n ?_ rfl rfl)) ?_
        refine wp_getR (pc := 29) dX11_ask_29 fl_11_92 (by first | rfl | assumption | exact sh_house (by omega) | exact sh_wish (by omega) | exact sh_wor (by omega) | exact sh_bar (by omega) | exact sh_term (by omega) | exact sh_sheet (by omega) | exact sh_items (by omega) | exact sh_sums (by omega)) rfl ?_
        refine wp_getI (pc := 32) dX11_ask_32 fl_11_209 (by first | rfl | assumption | exact sh_house (by omega) | exact sh_wish (by omega) | exact sh_wor (by omega) | exact sh_bar (by omega) | exact sh_term (by omega) | exact sh_sheet (by omega) | exact sh_items (by omega) | exact sh_sums (by omega)) rfl ?_
        refine wp_iconst (pc := 35) (v := 1) dX11_ask_35 (by decide) ?_
        refine wp_iadd (pc := 36) dX11_ask_36 ?_
        refine wp_cV (pc := 37) dX11_ask_37 lk_11_212 rfl (by decide) rfl (by first | rfl | assumption | exact sh_house (by omega) | exact sh_wish (by omega) | exact sh_wor (by omega) | exact sh_bar (by omega) | exact sh_term (by omega) | exact sh_sheet (by omega) | exact sh_items (by omega) | exact sh_sums (by omega)) rfl rfl ?_
        rw [e1]
        refine c_X7_partyOf (show w + 1 < 2 ^ 31 by omega) (aK_i ?_)
        rw [ep]
        refine wp_icmp_eq (pc := 40) (tgt := 46) dX11_ask_40 rfl (fun _ => ?_) (fun q => absurd c2 q)
        refine wp_aload_n (pc := 46) dX11_ask_46 (by first | rfl | assumption | (repeat first | assumption | rfl | refine aG_n ?_ rfl rfl)) ?_
        refine wp_getR (pc := 47) dX11_ask_47 fl_11_92 (by first | rfl | assumption | exact sh_house (by omega) | exact sh_wish (by omega) | exact sh_wor (by omega) | exact sh_bar (by omega) | exact sh_term (by omega) | exact sh_sheet (by omega) | exact sh_items (by omega) | exact sh_sums (by omega)) rfl ?_
        refine wp_iconst (pc := 50) (v := 0) dX11_ask_50 (by decide) ?_
        refine wp_iconst (pc := 51) (v := 0) dX11_ask_51 (by decide) ?_
        refine wp_iconst (pc := 52) (v := 0) dX11_ask_52 (by decide) ?_
        refine wp_cV (pc := 53) dX11_ask_53 lk_11_215 rfl (by decide) rfl (by first | rfl | assumption | exact sh_house (by omega) | exact sh_wish (by omega) | exact sh_wor (by omega) | exact sh_bar (by omega) | exact sh_term (by omega) | exact sh_sheet (by omega) | exact sh_items (by omega) | exact sh_sums (by omega)) rfl rfl (c_X7_add (kd := 0) (st := 0) (pr := 0) hc t36 d31 hlt d33 (aK_v ?_))
        refine wp_iconst (pc := 56) (v := 1) dX11_ask_56 (by decide) ?_
        refine wp_ireturn (pc := 57) dX11_ask_57 rfl (by first | rfl | decide | assumption) ?_
        refine k _ _ (fun Q' k' => ?_)
        have s1 : (addM μ.1 w 0 0 0 (zOf 0 w mo)) 86 15 = 1 := by rw [addM_ne (by omega)]; exact ho
        have s2 : (addM μ.1 w 0 0 0 (zOf 0 w mo)) 86 19 = nI w := by rw [addM_ne (by omega)]; exact t6
        have s3 : (addM μ.1 w 0 0 0 (zOf 0 w mo)) 86 18 = nI mo := by rw [addM_ne (by omega)]; exact d32
        have f1 : (addM μ.1 w 0 0 0 (zOf 0 w mo)) 86 19 + 1 = nI (w + 1) := by rw [s2, nI_1]
        have f2 : (if (w + 1) % 2 = 0 then (addM μ.1 w 0 0 0 (zOf 0 w mo)) 86 16 else (addM μ.1 w 0 0 0 (zOf 0 w mo)) 86 17) = if (w + 1) % 2 = 0 then nI a else nI b := by rw [addM_ne (by omega), d22, d24]
        have f3 : (addM μ.1 w 0 0 0 (zOf 0 w mo)) 87 (nI q).toNatClampNeg = nI z := by rw [addM_ne (by omega), cq]; exact ez
        refine wp_iload_n (pc := 0) dX12_ask_0 (by first | rfl | assumption | (repeat first | assumption | rfl | refine aG_n ?_ rfl rfl)) ?_
        refine wp_i2l (pc := 1) dX12_ask_1 ?_
        refine wp_lconst (pc := 2) (v := 0) dX12_ask_2 (by decide) ?_
        refine wp_ldc2 (pc := 3) dX12_ask_3 cl_12_141 ?_
        refine wp_cS (pc := 6) dX12_ask_6 lk_12_133 rfl rfl rfl (c_X12_in (fun _ => aK_i ?_) (fun q => absurd (by rw [w_int]; exact c1) q))
        refine wp_if_ne (pc := 9) (tgt := 14) dX12_ask_9 rfl (fun _ => ?_) (fun q => absurd q (by decide))
        refine wp_aload_n (pc := 14) dX12_ask_14 (by first | rfl | assumption | (repeat first | assumption | rfl | refine aG_n ?_ rfl rfl)) ?_
        refine wp_cV (pc := 15) dX12_ask_15 lk_12_147 rfl (by decide) rfl (by first | rfl | assumption | exact sh_house (by omega) | exact sh_wish (by omega) | exact sh_wor (by omega) | exact sh_bar (by omega) | exact sh_term (by omega) | exact sh_sheet (by omega) | exact sh_items (by omega) | exact sh_sums (by omega)) rfl rfl (c_X12_isTalking (fun _ => aK_i ?_) (fun q => absurd s1 q))
        refine wp_if_eq (pc := 18) (tgt := 40) dX12_ask_18 rfl (fun q => absurd q (by decide)) (fun _ => ?_)
        refine wp_aload_n (pc := 21) dX12_ask_21 (by first | rfl | assumption | (repeat first | assumption | rfl | refine aG_n ?_ rfl rfl)) ?_
        refine wp_getR (pc := 22) dX12_ask_22 fl_12_7 (by first | rfl | assumption | exact sh_house (by omega) | exact sh_wish (by omega) | exact sh_wor (by omega) | exact sh_bar (by omega) | exact sh_term (by omega) | exact sh_sheet (by omega) | exact sh_items (by omega) | exact sh_sums (by omega)) rfl ?_
        refine wp_iload_n (pc := 25) dX12_ask_25 (by first | rfl | assumption | (repeat first | assumption | rfl | refine aG_n ?_ rfl rfl)) ?_
        refine wp_iald (pc := 26) dX12_ask_26 (by first | rfl | assumption | exact sh_house (by omega) | exact sh_wish (by omega) | exact sh_wor (by omega) | exact sh_bar (by omega) | exact sh_term (by omega) | exact sh_sheet (by omega) | exact sh_items (by omega) | exact sh_sums (by omega)) (vp_in_nI (by omega) (by decide)) ?_
        refine wp_aload_n (pc := 27) dX12_ask_27 (by first | rfl | assumption | (repeat first | assumption | rfl | refine aG_n ?_ rfl rfl)) ?_
        refine wp_aload_n (pc := 28) dX12_ask_28 (by first | rfl | assumption | (repeat first | assumption | rfl | refine aG_n ?_ rfl rfl)) ?_
        refine wp_getI (pc := 29) dX12_ask_29 fl_12_244 (by first | rfl | assumption | exact sh_house (by omega) | exact sh_wish (by omega) | exact sh_wor (by omega) | exact sh_bar (by omega) | exact sh_term (by omega) | exact sh_sheet (by omega) | exact sh_items (by omega) | exact sh_sums (by omega)) rfl ?_
        refine wp_iconst (pc := 32) (v := 1) dX12_ask_32 (by decide) ?_
        refine wp_iadd (pc := 33) dX12_ask_33 ?_
        refine wp_cV (pc := 34) dX12_ask_34 lk_12_259 rfl (by decide) rfl (by first | rfl | assumption | exact sh_house (by omega) | exact sh_wish (by omega) | exact sh_wor (by omega) | exact sh_bar (by omega) | exact sh_term (by omega) | exact sh_sheet (by omega) | exact sh_items (by omega) | exact sh_sums (by omega)) rfl rfl ?_
        rw [f1]
        refine c_X12_whose (show w + 1 < 2 ^ 31 by omega) (aK_i ?_)
        rw [f2]
        refine wp_icmp_eq (pc := 37) (tgt := 43) dX12_ask_37 rfl (fun _ => ?_) (fun q => absurd (by dsimp only; rw [f3]; exact c2) q)
        refine wp_aload_n (pc := 43) dX12_ask_43 (by first | rfl | assumption | (repeat first | assumption | rfl | refine aG_n ?_ rfl rfl)) ?_
        refine wp_iconst (pc := 44) (v := 0) dX12_ask_44 (by decide) ?_
        refine wp_iconst (pc := 45) (v := 0) dX12_ask_45 (by decide) ?_
        refine wp_iconst (pc := 46) (v := 0) dX12_ask_46 (by decide) ?_
        refine wp_cV (pc := 47) dX12_ask_47 lk_12_262 rfl (by decide) rfl (by first | rfl | assumption | exact sh_house (by omega) | exact sh_wish (by omega) | exact sh_wor (by omega) | exact sh_bar (by omega) | exact sh_term (by omega) | exact sh_sheet (by omega) | exact sh_items (by omega) | exact sh_sums (by omega)) rfl rfl (c_X12_say s2 s1 s3 hlt d33 (aK_v ?_))
        refine wp_iconst (pc := 50) (v := 1) dX12_ask_50 (by decide) ?_
        refine wp_ireturn (pc := 51) dX12_ask_51 rfl (by first | rfl | decide | assumption) ?_
        exact k' _ (Inv_say hI ho t6 hw d32 d33 (by unfold inR; decide) (fun z => absurd z (by decide)) (fun _ => ⟨rfl, rfl⟩) (fun z => absurd z (by decide)))
      · skip
        refine wp_iload_n (pc := 0) dX11_ask_0 (by first | rfl | assumption | (repeat first | assumption | rfl | refine aG_n ?_ rfl rfl)) ?_
        refine wp_cS (pc := 1) dX11_ask_1 lk_11_97 rfl rfl rfl (c_X11_isThing (fun _ => aK_i ?_) (fun q => absurd c1 q))
        refine wp_if_ne (pc := 4) (tgt := 9) dX11_ask_4 rfl (fun _ => ?_) (fun q => absurd q (by decide))
        refine wp_aload_n (pc := 9) dX11_ask_9 (by first | rfl | assumption | (repeat first | assumption | rfl | refine aG_n ?_ rfl rfl)) ?_
        refine wp_getR (pc := 10) dX11_ask_10 fl_11_92 (by first | rfl | assumption | exact sh_house (by omega) | exact sh_wish (by omega) | exact sh_wor (by omega) | exact sh_bar (by omega) | exact sh_term (by omega) | exact sh_sheet (by omega) | exact sh_items (by omega) | exact sh_sums (by omega)) rfl ?_
        refine wp_cV (pc := 13) dX11_ask_13 lk_11_104 rfl (by decide) rfl (by first | rfl | assumption | exact sh_house (by omega) | exact sh_wish (by omega) | exact sh_wor (by omega) | exact sh_bar (by omega) | exact sh_term (by omega) | exact sh_sheet (by omega) | exact sh_items (by omega) | exact sh_sums (by omega)) rfl rfl (c_X7_isOpen (fun _ => aK_i ?_) (fun q => absurd hc q))
        refine wp_if_eq (pc := 16) (tgt := 43) dX11_ask_16 rfl (fun q => absurd q (by decide)) (fun _ => ?_)
        refine wp_aload_n (pc := 19) dX11_ask_19 (by first | rfl | assumption | (repeat first | assumption | rfl | refine aG_n ?_ rfl rfl)) ?_
        refine wp_iload_n (pc := 20) dX11_ask_20 (by first | rfl | assumption | (repeat first | assumption | rfl | refine aG_n ?_ rfl rfl)) ?_
        refine wp_cV (pc := 21) dX11_ask_21 lk_11_108 rfl (by decide) rfl (by first | rfl | assumption | exact sh_house (by omega) | exact sh_wish (by omega) | exact sh_wor (by omega) | exact sh_bar (by omega) | exact sh_term (by omega) | exact sh_sheet (by omega) | exact sh_items (by omega) | exact sh_sums (by omega)) rfl rfl (c_X11_ownerOf hO hq6 ez hz (aK_i ?_))
        refine wp_aload_n (pc := 24) dX11_ask_24 (by first | rfl | assumption | (repeat first | assumption | rfl | refine aG_n ?_ rfl rfl)) ?_
        refine wp_getR (pc := 25) dX11_ask_25 fl_11_92 (by first | rfl | assumption | exact sh_house (by omega) | exact sh_wish (by omega) | exact sh_wor (by omega) | exact sh_bar (by omega) | exact sh_term (by omega) | exact sh_sheet (by omega) | exact sh_items (by omega) | exact sh_sums (by omega)) rfl ?_
        refine wp_aload_n (pc := 28) dX11_ask_28 (by first | rfl | assumption | (repeat first | assumption | rfl | refine aG_n ?_ rfl rfl)) ?_
        refine wp_getR (pc := 29) dX11_ask_29 fl_11_92 (by first | rfl | assumption | exact sh_house (by omega) | exact sh_wish (by omega) | exact sh_wor (by omega) | exact sh_bar (by omega) | exact sh_term (by omega) | exact sh_sheet (by omega) | exact sh_items (by omega) | exact sh_sums (by omega)) rfl ?_
        refine wp_getI (pc := 32) dX11_ask_32 fl_11_209 (by first | rfl | assumption | exact sh_house (by omega) | exact sh_wish (by omega) | exact sh_wor (by omega) | exact sh_bar (by omega) | exact sh_term (by omega) | exact sh_sheet (by omega) | exact sh_items (by omega) | exact sh_sums (by omega)) rfl ?_
        refine wp_iconst (pc := 35) (v := 1) dX11_ask_35 (by decide) ?_
        refine wp_iadd (pc := 36) dX11_ask_36 ?_
        refine wp_cV (pc := 37) dX11_ask_37 lk_11_212 rfl (by decide) rfl (by first | rfl | assumption | exact sh_house (by omega) | exact sh_wish (by omega) | exact sh_wor (by omega) | exact sh_bar (by omega) | exact sh_term (by omega) | exact sh_sheet (by omega) | exact sh_items (by omega) | exact sh_sums (by omega)) rfl rfl ?_
        rw [e1]
        refine c_X7_partyOf (show w + 1 < 2 ^ 31 by omega) (aK_i ?_)
        rw [ep]
        refine wp_icmp_eq (pc := 40) (tgt := 46) dX11_ask_40 rfl (fun q => absurd q c2) (fun _ => ?_)
        refine wp_bipush (pc := 43) (v := -2) dX11_ask_43 (by decide) ?_
        refine wp_ireturn (pc := 45) dX11_ask_45 rfl (by first | rfl | decide | assumption) ?_
        refine k _ _ (fun Q' k' => ?_)
        have f1 : μ.1 86 19 + 1 = nI (w + 1) := by rw [t6, nI_1]
        have f2 : (if (w + 1) % 2 = 0 then μ.1 86 16 else μ.1 86 17) = if (w + 1) % 2 = 0 then nI a else nI b := by rw [d22, d24]
        have f3 : μ.1 87 (nI q).toNatClampNeg = nI z := by rw [cq]; exact ez
        refine wp_iload_n (pc := 0) dX12_ask_0 (by first | rfl | assumption | (repeat first | assumption | rfl | refine aG_n ?_ rfl rfl)) ?_
        refine wp_i2l (pc := 1) dX12_ask_1 ?_
        refine wp_lconst (pc := 2) (v := 0) dX12_ask_2 (by decide) ?_
        refine wp_ldc2 (pc := 3) dX12_ask_3 cl_12_141 ?_
        refine wp_cS (pc := 6) dX12_ask_6 lk_12_133 rfl rfl rfl (c_X12_in (fun _ => aK_i ?_) (fun q => absurd (by rw [w_int]; exact c1) q))
        refine wp_if_ne (pc := 9) (tgt := 14) dX12_ask_9 rfl (fun _ => ?_) (fun q => absurd q (by decide))
        refine wp_aload_n (pc := 14) dX12_ask_14 (by first | rfl | assumption | (repeat first | assumption | rfl | refine aG_n ?_ rfl rfl)) ?_
        refine wp_cV (pc := 15) dX12_ask_15 lk_12_147 rfl (by decide) rfl (by first | rfl | assumption | exact sh_house (by omega) | exact sh_wish (by omega) | exact sh_wor (by omega) | exact sh_bar (by omega) | exact sh_term (by omega) | exact sh_sheet (by omega) | exact sh_items (by omega) | exact sh_sums (by omega)) rfl rfl (c_X12_isTalking (fun _ => aK_i ?_) (fun q => absurd ho q))
        refine wp_if_eq (pc := 18) (tgt := 40) dX12_ask_18 rfl (fun q => absurd q (by decide)) (fun _ => ?_)
        refine wp_aload_n (pc := 21) dX12_ask_21 (by first | rfl | assumption | (repeat first | assumption | rfl | refine aG_n ?_ rfl rfl)) ?_
        refine wp_getR (pc := 22) dX12_ask_22 fl_12_7 (by first | rfl | assumption | exact sh_house (by omega) | exact sh_wish (by omega) | exact sh_wor (by omega) | exact sh_bar (by omega) | exact sh_term (by omega) | exact sh_sheet (by omega) | exact sh_items (by omega) | exact sh_sums (by omega)) rfl ?_
        refine wp_iload_n (pc := 25) dX12_ask_25 (by first | rfl | assumption | (repeat first | assumption | rfl | refine aG_n ?_ rfl rfl)) ?_
        refine wp_iald (pc := 26) dX12_ask_26 (by first | rfl | assumption | exact sh_house (by omega) | exact sh_wish (by omega) | exact sh_wor (by omega) | exact sh_bar (by omega) | exact sh_term (by omega) | exact sh_sheet (by omega) | exact sh_items (by omega) | exact sh_sums (by omega)) (vp_in_nI (by omega) (by decide)) ?_
        refine wp_aload_n (pc := 27) dX12_ask_27 (by first | rfl | assumption | (repeat first | assumption | rfl | refine aG_n ?_ rfl rfl)) ?_
        refine wp_aload_n (pc := 28) dX12_ask_28 (by first | rfl | assumption | (repeat first | assumption | rfl | refine aG_n ?_ rfl rfl)) ?_
        refine wp_getI (pc := 29) dX12_ask_29 fl_12_244 (by first | rfl | assumption | exact sh_house (by omega) | exact sh_wish (by omega) | exact sh_wor (by omega) | exact sh_bar (by omega) | exact sh_term (by omega) | exact sh_sheet (by omega) | exact sh_items (by omega) | exact sh_sums (by omega)) rfl ?_
        refine wp_iconst (pc := 32) (v := 1) dX12_ask_32 (by decide) ?_
        refine wp_iadd (pc := 33) dX12_ask_33 ?_
        refine wp_cV (pc := 34) dX12_ask_34 lk_12_259 rfl (by decide) rfl (by first | rfl | assumption | exact sh_house (by omega) | exact sh_wish (by omega) | exact sh_wor (by omega) | exact sh_bar (by omega) | exact sh_term (by omega) | exact sh_sheet (by omega) | exact sh_items (by omega) | exact sh_sums (by omega)) rfl rfl ?_
        rw [f1]
        refine c_X12_whose (show w + 1 < 2 ^ 31 by omega) (aK_i ?_)
        rw [f2]
        refine wp_icmp_eq (pc := 37) (tgt := 43) dX12_ask_37 rfl (fun q => absurd q (by rw [f3]; exact c2)) (fun _ => ?_)
        refine wp_bipush (pc := 40) (v := -2) dX12_ask_40 (by decide) ?_
        refine wp_ireturn (pc := 42) dX12_ask_42 rfl (by first | rfl | decide | assumption) ?_
        exact k' _ hI
    · skip
      have hc : ¬ μ.1 73 0 = 1 := fun z => ho (t1.symm.trans z)
      refine wp_iload_n (pc := 0) dX11_ask_0 (by first | rfl | assumption | (repeat first | assumption | rfl | refine aG_n ?_ rfl rfl)) ?_
      refine wp_cS (pc := 1) dX11_ask_1 lk_11_97 rfl rfl rfl (c_X11_isThing (fun _ => aK_i ?_) (fun q => absurd c1 q))
      refine wp_if_ne (pc := 4) (tgt := 9) dX11_ask_4 rfl (fun _ => ?_) (fun q => absurd q (by decide))
      refine wp_aload_n (pc := 9) dX11_ask_9 (by first | rfl | assumption | (repeat first | assumption | rfl | refine aG_n ?_ rfl rfl)) ?_
      refine wp_getR (pc := 10) dX11_ask_10 fl_11_92 (by first | rfl | assumption | exact sh_house (by omega) | exact sh_wish (by omega) | exact sh_wor (by omega) | exact sh_bar (by omega) | exact sh_term (by omega) | exact sh_sheet (by omega) | exact sh_items (by omega) | exact sh_sums (by omega)) rfl ?_
      refine wp_cV (pc := 13) dX11_ask_13 lk_11_104 rfl (by decide) rfl (by first | rfl | assumption | exact sh_house (by omega) | exact sh_wish (by omega) | exact sh_wor (by omega) | exact sh_bar (by omega) | exact sh_term (by omega) | exact sh_sheet (by omega) | exact sh_items (by omega) | exact sh_sums (by omega)) rfl rfl (c_X7_isOpen (fun q => absurd q hc) (fun _ => aK_i ?_))
      refine wp_if_eq (pc := 16) (tgt := 43) dX11_ask_16 rfl (fun _ => ?_) (fun q => absurd q (by decide))
      refine wp_bipush (pc := 43) (v := -2) dX11_ask_43 (by decide) ?_
      refine wp_ireturn (pc := 45) dX11_ask_45 rfl (by first | rfl | decide | assumption) ?_
      refine k _ _ (fun Q' k' => ?_)
      refine wp_iload_n (pc := 0) dX12_ask_0 (by first | rfl | assumption | (repeat first | assumption | rfl | refine aG_n ?_ rfl rfl)) ?_
      refine wp_i2l (pc := 1) dX12_ask_1 ?_
      refine wp_lconst (pc := 2) (v := 0) dX12_ask_2 (by decide) ?_
      refine wp_ldc2 (pc := 3) dX12_ask_3 cl_12_141 ?_
      refine wp_cS (pc := 6) dX12_ask_6 lk_12_133 rfl rfl rfl (c_X12_in (fun _ => aK_i ?_) (fun q => absurd (by rw [w_int]; exact c1) q))
      refine wp_if_ne (pc := 9) (tgt := 14) dX12_ask_9 rfl (fun _ => ?_) (fun q => absurd q (by decide))
      refine wp_aload_n (pc := 14) dX12_ask_14 (by first | rfl | assumption | (repeat first | assumption | rfl | refine aG_n ?_ rfl rfl)) ?_
      refine wp_cV (pc := 15) dX12_ask_15 lk_12_147 rfl (by decide) rfl (by first | rfl | assumption | exact sh_house (by omega) | exact sh_wish (by omega) | exact sh_wor (by omega) | exact sh_bar (by omega) | exact sh_term (by omega) | exact sh_sheet (by omega) | exact sh_items (by omega) | exact sh_sums (by omega)) rfl rfl (c_X12_isTalking (fun q => absurd q ho) (fun _ => aK_i ?_))
      refine wp_if_eq (pc := 18) (tgt := 40) dX12_ask_18 rfl (fun _ => ?_) (fun q => absurd q (by decide))
      refine wp_bipush (pc := 40) (v := -2) dX12_ask_40 (by decide) ?_
      refine wp_ireturn (pc := 42) dX12_ask_42 rfl (by first | rfl | decide | assumption) ?_
      exact k' _ hI
  · skip
    refine wp_iload_n (pc := 0) dX11_ask_0 (by first | rfl | assumption | (repeat first | assumption | rfl | refine aG_n ?_ rfl rfl)) ?_
    refine wp_cS (pc := 1) dX11_ask_1 lk_11_97 rfl rfl rfl (c_X11_isThing (fun q => absurd q c1) (fun _ => aK_i ?_))
    refine wp_if_ne (pc := 4) (tgt := 9) dX11_ask_4 rfl (fun q => absurd q (by decide)) (fun _ => ?_)
    refine wp_iconst (pc := 7) (v := -1) dX11_ask_7 (by decide) ?_
    refine wp_ireturn (pc := 8) dX11_ask_8 rfl (by first | rfl | decide | assumption) ?_
    refine k _ _ (fun Q' k' => ?_)
    refine wp_iload_n (pc := 0) dX12_ask_0 (by first | rfl | assumption | (repeat first | assumption | rfl | refine aG_n ?_ rfl rfl)) ?_
    refine wp_i2l (pc := 1) dX12_ask_1 ?_
    refine wp_lconst (pc := 2) (v := 0) dX12_ask_2 (by decide) ?_
    refine wp_ldc2 (pc := 3) dX12_ask_3 cl_12_141 ?_
    refine wp_cS (pc := 6) dX12_ask_6 lk_12_133 rfl rfl rfl (c_X12_in (fun q => absurd q (by rw [w_int]; exact c1)) (fun _ => aK_i ?_))
    refine wp_if_ne (pc := 9) (tgt := 14) dX12_ask_9 rfl (fun q => absurd q (by decide)) (fun _ => ?_)
    refine wp_iconst (pc := 12) (v := -1) dX12_ask_12 (by decide) ?_
    refine wp_ireturn (pc := 13) dX12_ask_13 rfl (by first | rfl | decide | assumption) ?_
    exact k' _ hI
theorem J_offer (s p : Int32) : Jnt mX11_offer mX12_offer [.int s, .int p] := by
  intro X μ Q hI k
  have hT := hI.2.2.2.2.2.1
  obtain ⟨t1, t2, t3, t4, w, hw, t6, t7, t8⟩ := id hT
  have t36 : μ.1 73 3 = nI w := t3.trans t6
  have hk75 : ∀ q, q < 20 → μ.1 75 q = μ.1 100 q := fun q hq => (t4 q hq).1
  by_cases ho : μ.1 86 15 = 1
  · skip
    have hc : μ.1 73 0 = 1 := t1.trans ho
    obtain ⟨a, b, mo, ⟨ha, hb, hab⟩, ⟨d21, d22, d23, d24⟩, ⟨d31, d32, d33, d34, d35⟩, d4, d5, d6, d7, d8, d9, d10⟩ := t8 (by rw [ho]; decide)
    have hlt := d35 ho
    by_cases c1 : exE μ.1 (nI a) (nI b) s p
    · obtain ⟨i', j', u, -, -, -, hu, -, -, rfl, hp, -⟩ := id c1
      by_cases c2 : ofW μ.1 w (nI w - 1)
      · skip
        refine wp_aload_n (pc := 0) dX11_offer_0 (by first | rfl | assumption | (repeat first | assumption | rfl | refine aG_n ?_ rfl rfl)) ?_
        refine wp_getR (pc := 1) dX11_offer_1 fl_11_92 (by first | rfl | assumption | exact sh_house (by omega) | exact sh_wish (by omega) | exact sh_wor (by omega) | exact sh_bar (by omega) | exact sh_term (by omega) | exact sh_sheet (by omega) | exact sh_items (by omega) | exact sh_sums (by omega)) rfl ?_
        refine wp_cV (pc := 4) dX11_offer_4 lk_11_104 rfl (by decide) rfl (by first | rfl | assumption | exact sh_house (by omega) | exact sh_wish (by omega) | exact sh_wor (by omega) | exact sh_bar (by omega) | exact sh_term (by omega) | exact sh_sheet (by omega) | exact sh_items (by omega) | exact sh_sums (by omega)) rfl rfl (c_X7_isOpen (fun _ => aK_i ?_) (fun q => absurd hc q))
        refine wp_if_ne (pc := 7) (tgt := 13) dX11_offer_7 rfl (fun _ => ?_) (fun q => absurd q (by decide))
        refine wp_aload_n (pc := 13) dX11_offer_13 (by first | rfl | assumption | (repeat first | assumption | rfl | refine aG_n ?_ rfl rfl)) ?_
        refine wp_aload_n (pc := 14) dX11_offer_14 (by first | rfl | assumption | (repeat first | assumption | rfl | refine aG_n ?_ rfl rfl)) ?_
        refine wp_getR (pc := 15) dX11_offer_15 fl_11_92 (by first | rfl | assumption | exact sh_house (by omega) | exact sh_wish (by omega) | exact sh_wor (by omega) | exact sh_bar (by omega) | exact sh_term (by omega) | exact sh_sheet (by omega) | exact sh_items (by omega) | exact sh_sums (by omega)) rfl ?_
        refine wp_getI (pc := 18) dX11_offer_18 fl_11_218 (by first | rfl | assumption | exact sh_house (by omega) | exact sh_wish (by omega) | exact sh_wor (by omega) | exact sh_bar (by omega) | exact sh_term (by omega) | exact sh_sheet (by omega) | exact sh_items (by omega) | exact sh_sums (by omega)) rfl ?_
        refine wp_aload_n (pc := 21) dX11_offer_21 (by first | rfl | assumption | (repeat first | assumption | rfl | refine aG_n ?_ rfl rfl)) ?_
        refine wp_getR (pc := 22) dX11_offer_22 fl_11_92 (by first | rfl | assumption | exact sh_house (by omega) | exact sh_wish (by omega) | exact sh_wor (by omega) | exact sh_bar (by omega) | exact sh_term (by omega) | exact sh_sheet (by omega) | exact sh_items (by omega) | exact sh_sums (by omega)) rfl ?_
        refine wp_getI (pc := 25) dX11_offer_25 fl_11_221 (by first | rfl | assumption | exact sh_house (by omega) | exact sh_wish (by omega) | exact sh_wor (by omega) | exact sh_bar (by omega) | exact sh_term (by omega) | exact sh_sheet (by omega) | exact sh_items (by omega) | exact sh_sums (by omega)) rfl ?_
        refine wp_iload_n (pc := 28) dX11_offer_28 (by first | rfl | assumption | (repeat first | assumption | rfl | refine aG_n ?_ rfl rfl)) ?_
        refine wp_iload_n (pc := 29) dX11_offer_29 (by first | rfl | assumption | (repeat first | assumption | rfl | refine aG_n ?_ rfl rfl)) ?_
        refine wp_cV (pc := 30) dX11_offer_30 lk_11_168 rfl (by decide) rfl (by first | rfl | assumption | exact sh_house (by omega) | exact sh_wish (by omega) | exact sh_wor (by omega) | exact sh_bar (by omega) | exact sh_term (by omega) | exact sh_sheet (by omega) | exact sh_items (by omega) | exact sh_sums (by omega)) rfl rfl (c_X11_isExchange hI.1 (fun _ => aK_i ?_) (fun q => absurd (by rw [d21, d23]; exact c1) q))
        refine wp_if_ne (pc := 33) (tgt := 38) dX11_offer_33 rfl (fun _ => ?_) (fun q => absurd q (by decide))
        refine wp_aload_n (pc := 38) dX11_offer_38 (by first | rfl | assumption | (repeat first | assumption | rfl | refine aG_n ?_ rfl rfl)) ?_
        refine wp_getR (pc := 39) dX11_offer_39 fl_11_92 (by first | rfl | assumption | exact sh_house (by omega) | exact sh_wish (by omega) | exact sh_wor (by omega) | exact sh_bar (by omega) | exact sh_term (by omega) | exact sh_sheet (by omega) | exact sh_items (by omega) | exact sh_sums (by omega)) rfl ?_
        refine wp_aload_n (pc := 42) dX11_offer_42 (by first | rfl | assumption | (repeat first | assumption | rfl | refine aG_n ?_ rfl rfl)) ?_
        refine wp_getR (pc := 43) dX11_offer_43 fl_11_92 (by first | rfl | assumption | exact sh_house (by omega) | exact sh_wish (by omega) | exact sh_wor (by omega) | exact sh_bar (by omega) | exact sh_term (by omega) | exact sh_sheet (by omega) | exact sh_items (by omega) | exact sh_sums (by omega)) rfl ?_
        refine wp_getI (pc := 46) dX11_offer_46 fl_11_209 (by first | rfl | assumption | exact sh_house (by omega) | exact sh_wish (by omega) | exact sh_wor (by omega) | exact sh_bar (by omega) | exact sh_term (by omega) | exact sh_sheet (by omega) | exact sh_items (by omega) | exact sh_sums (by omega)) rfl ?_
        refine wp_cV (pc := 49) dX11_offer_49 lk_11_224 rfl (by decide) rfl (by first | rfl | assumption | exact sh_house (by omega) | exact sh_wish (by omega) | exact sh_wor (by omega) | exact sh_bar (by omega) | exact sh_term (by omega) | exact sh_sheet (by omega) | exact sh_items (by omega) | exact sh_sums (by omega)) rfl rfl (c_X7_offerKind hw t36 hk75 (fun _ => aK_i ?_) (fun q => absurd (by rw [t36]; exact c2) q))
        refine wp_istore_n (pc := 52) dX11_offer_52 (by decide) ?_
        refine wp_aload_n (pc := 53) dX11_offer_53 (by first | rfl | assumption | (repeat first | assumption | rfl | refine aG_n ?_ rfl rfl)) ?_
        refine wp_getR (pc := 54) dX11_offer_54 fl_11_92 (by first | rfl | assumption | exact sh_house (by omega) | exact sh_wish (by omega) | exact sh_wor (by omega) | exact sh_bar (by omega) | exact sh_term (by omega) | exact sh_sheet (by omega) | exact sh_items (by omega) | exact sh_sums (by omega)) rfl ?_
        refine wp_iload_n (pc := 57) dX11_offer_57 (by first | rfl | assumption | (repeat first | assumption | rfl | refine aG_n ?_ rfl rfl)) ?_
        refine wp_iload_n (pc := 58) dX11_offer_58 (by first | rfl | assumption | (repeat first | assumption | rfl | refine aG_n ?_ rfl rfl)) ?_
        refine wp_iload_n (pc := 59) dX11_offer_59 (by first | rfl | assumption | (repeat first | assumption | rfl | refine aG_n ?_ rfl rfl)) ?_
        refine wp_cV (pc := 60) dX11_offer_60 lk_11_215 rfl (by decide) rfl (by first | rfl | assumption | exact sh_house (by omega) | exact sh_wish (by omega) | exact sh_wor (by omega) | exact sh_bar (by omega) | exact sh_term (by omega) | exact sh_sheet (by omega) | exact sh_items (by omega) | exact sh_sums (by omega)) rfl rfl (c_X7_add (kd := 2) (st := nI u) (pr := p) hc t36 d31 hlt d33 (aK_v ?_))
        refine wp_iload_n (pc := 63) dX11_offer_63 (by first | rfl | assumption | (repeat first | assumption | rfl | refine aG_n ?_ rfl rfl)) ?_
        refine wp_ireturn (pc := 64) dX11_offer_64 rfl (by first | rfl | decide | assumption) ?_
        refine k _ _ (fun Q' k' => ?_)
        have s1 : (addM μ.1 w 2 (nI u) p (zOf 2 w mo)) 86 15 = 1 := by rw [addM_ne (by omega)]; exact ho
        have s2 : (addM μ.1 w 2 (nI u) p (zOf 2 w mo)) 86 19 = nI w := by rw [addM_ne (by omega)]; exact t6
        have s3 : (addM μ.1 w 2 (nI u) p (zOf 2 w mo)) 86 18 = nI mo := by rw [addM_ne (by omega)]; exact d32
        have s4 : exE (addM μ.1 w 2 (nI u) p (zOf 2 w mo)) (nI a) (nI b) (nI u) p := (exE_c (fun q => by unfold th; rw [addM_ne (by omega)])).mp c1
        have s5 : (addM μ.1 w 2 (nI u) p (zOf 2 w mo)) 86 16 = nI a := by rw [addM_ne (by omega)]; exact d22
        have s6 : (addM μ.1 w 2 (nI u) p (zOf 2 w mo)) 86 17 = nI b := by rw [addM_ne (by omega)]; exact d24
        have s7 : ofW (addM μ.1 w 2 (nI u) p (zOf 2 w mo)) w (nI w - 1) ↔ ofW μ.1 w (nI w - 1) := ofW_c (addM_ne (by omega))
        refine wp_aload_n (pc := 0) dX12_offer_0 (by first | rfl | assumption | (repeat first | assumption | rfl | refine aG_n ?_ rfl rfl)) ?_
        refine wp_cV (pc := 1) dX12_offer_1 lk_12_147 rfl (by decide) rfl (by first | rfl | assumption | exact sh_house (by omega) | exact sh_wish (by omega) | exact sh_wor (by omega) | exact sh_bar (by omega) | exact sh_term (by omega) | exact sh_sheet (by omega) | exact sh_items (by omega) | exact sh_sums (by omega)) rfl rfl (c_X12_isTalking (fun _ => aK_i ?_) (fun q => absurd s1 q))
        refine wp_if_ne (pc := 4) (tgt := 10) dX12_offer_4 rfl (fun _ => ?_) (fun q => absurd q (by decide))
        refine wp_aload_n (pc := 10) dX12_offer_10 (by first | rfl | assumption | (repeat first | assumption | rfl | refine aG_n ?_ rfl rfl)) ?_
        refine wp_aload_n (pc := 11) dX12_offer_11 (by first | rfl | assumption | (repeat first | assumption | rfl | refine aG_n ?_ rfl rfl)) ?_
        refine wp_getI (pc := 12) dX12_offer_12 fl_12_235 (by first | rfl | assumption | exact sh_house (by omega) | exact sh_wish (by omega) | exact sh_wor (by omega) | exact sh_bar (by omega) | exact sh_term (by omega) | exact sh_sheet (by omega) | exact sh_items (by omega) | exact sh_sums (by omega)) rfl ?_
        refine wp_aload_n (pc := 15) dX12_offer_15 (by first | rfl | assumption | (repeat first | assumption | rfl | refine aG_n ?_ rfl rfl)) ?_
        refine wp_getI (pc := 16) dX12_offer_16 fl_12_238 (by first | rfl | assumption | exact sh_house (by omega) | exact sh_wish (by omega) | exact sh_wor (by omega) | exact sh_bar (by omega) | exact sh_term (by omega) | exact sh_sheet (by omega) | exact sh_items (by omega) | exact sh_sums (by omega)) rfl ?_
        refine wp_iload_n (pc := 19) dX12_offer_19 (by first | rfl | assumption | (repeat first | assumption | rfl | refine aG_n ?_ rfl rfl)) ?_
        refine wp_iload_n (pc := 20) dX12_offer_20 (by first | rfl | assumption | (repeat first | assumption | rfl | refine aG_n ?_ rfl rfl)) ?_
        refine wp_cV (pc := 21) dX12_offer_21 lk_12_220 rfl (by decide) rfl (by first | rfl | assumption | exact sh_house (by omega) | exact sh_wish (by omega) | exact sh_wor (by omega) | exact sh_bar (by omega) | exact sh_term (by omega) | exact sh_sheet (by omega) | exact sh_items (by omega) | exact sh_sums (by omega)) rfl rfl (c_X12_isExchange (fun _ => aK_i ?_) (fun q => absurd (by dsimp only; rw [s5, s6]; exact s4) q))
        refine wp_if_eq (pc := 24) (tgt := 36) dX12_offer_24 rfl (fun q => absurd q (by decide)) (fun _ => ?_)
        refine wp_aload_n (pc := 27) dX12_offer_27 (by first | rfl | assumption | (repeat first | assumption | rfl | refine aG_n ?_ rfl rfl)) ?_
        refine wp_iload_n (pc := 28) dX12_offer_28 (by first | rfl | assumption | (repeat first | assumption | rfl | refine aG_n ?_ rfl rfl)) ?_
        refine wp_iload_n (pc := 29) dX12_offer_29 (by first | rfl | assumption | (repeat first | assumption | rfl | refine aG_n ?_ rfl rfl)) ?_
        refine wp_cV (pc := 30) dX12_offer_30 lk_12_269 rfl (by decide) rfl (by first | rfl | assumption | exact sh_house (by omega) | exact sh_wish (by omega) | exact sh_wor (by omega) | exact sh_bar (by omega) | exact sh_term (by omega) | exact sh_sheet (by omega) | exact sh_items (by omega) | exact sh_sums (by omega)) rfl rfl ?_
        refine wp_aload_n (pc := 0) dX12_sayOffer_0 (by first | rfl | assumption | (repeat first | assumption | rfl | refine aG_n ?_ rfl rfl)) ?_
        refine wp_aload_n (pc := 1) dX12_sayOffer_1 (by first | rfl | assumption | (repeat first | assumption | rfl | refine aG_n ?_ rfl rfl)) ?_
        refine wp_getI (pc := 2) dX12_sayOffer_2 fl_12_244 (by first | rfl | assumption | exact sh_house (by omega) | exact sh_wish (by omega) | exact sh_wor (by omega) | exact sh_bar (by omega) | exact sh_term (by omega) | exact sh_sheet (by omega) | exact sh_items (by omega) | exact sh_sums (by omega)) rfl ?_
        refine wp_iconst (pc := 5) (v := 1) dX12_sayOffer_5 (by decide) ?_
        refine wp_isub (pc := 6) dX12_sayOffer_6 ?_
        refine wp_cV (pc := 7) dX12_sayOffer_7 lk_12_266 rfl (by decide) rfl (by first | rfl | assumption | exact sh_house (by omega) | exact sh_wish (by omega) | exact sh_wor (by omega) | exact sh_bar (by omega) | exact sh_term (by omega) | exact sh_sheet (by omega) | exact sh_items (by omega) | exact sh_sums (by omega)) rfl rfl (c_X12_isOffer hw s2 (fun _ => aK_i ?_) (fun q => absurd (by dsimp only; rw [s2]; exact s7.mpr c2) q))
        refine wp_if_eq (pc := 10) (tgt := 17) dX12_sayOffer_10 rfl (fun q => absurd q (by decide)) (fun _ => ?_)
        refine wp_iconst (pc := 13) (v := 2) dX12_sayOffer_13 (by decide) ?_
        refine wp_goto (pc := 14) (tgt := 18) dX12_sayOffer_14 rfl ?_
        refine wp_istore_n (pc := 18) dX12_sayOffer_18 (by decide) ?_
        refine wp_aload_n (pc := 19) dX12_sayOffer_19 (by first | rfl | assumption | (repeat first | assumption | rfl | refine aG_n ?_ rfl rfl)) ?_
        refine wp_iload_n (pc := 20) dX12_sayOffer_20 (by first | rfl | assumption | (repeat first | assumption | rfl | refine aG_n ?_ rfl rfl)) ?_
        refine wp_iload_n (pc := 21) dX12_sayOffer_21 (by first | rfl | assumption | (repeat first | assumption | rfl | refine aG_n ?_ rfl rfl)) ?_
        refine wp_iload_n (pc := 22) dX12_sayOffer_22 (by first | rfl | assumption | (repeat first | assumption | rfl | refine aG_n ?_ rfl rfl)) ?_
        refine wp_cV (pc := 23) dX12_sayOffer_23 lk_12_262 rfl (by decide) rfl (by first | rfl | assumption | exact sh_house (by omega) | exact sh_wish (by omega) | exact sh_wor (by omega) | exact sh_bar (by omega) | exact sh_term (by omega) | exact sh_sheet (by omega) | exact sh_items (by omega) | exact sh_sums (by omega)) rfl rfl (c_X12_say s2 s1 s3 hlt d33 (aK_v ?_))
        refine wp_iload_n (pc := 26) dX12_sayOffer_26 (by first | rfl | assumption | (repeat first | assumption | rfl | refine aG_n ?_ rfl rfl)) ?_
        refine wp_iretK (pc := 27) dX12_sayOffer_27 rfl (by first | rfl | decide | assumption) ?_
        refine wp_goto (pc := 33) (tgt := 37) dX12_offer_33 rfl ?_
        refine wp_ireturn (pc := 37) dX12_offer_37 rfl (by first | rfl | decide | assumption) ?_
        exact k' _ (Inv_say hI ho t6 hw d32 d33 (by unfold inR; decide) (fun _ => ⟨⟨u, hu, rfl⟩, hp, ⟨fun _ => (ofW_p hw (Nat.le_refl w)).mp c2, fun _ => rfl⟩⟩) (fun z => absurd (Or.inr rfl) z) (fun _ => by rw [(d9 ho).1, (d9 ho).2.1]; exact (exE_mk ha hb hab hu hp).mp c1))
      · skip
        refine wp_aload_n (pc := 0) dX11_offer_0 (by first | rfl | assumption | (repeat first | assumption | rfl | refine aG_n ?_ rfl rfl)) ?_
        refine wp_getR (pc := 1) dX11_offer_1 fl_11_92 (by first | rfl | assumption | exact sh_house (by omega) | exact sh_wish (by omega) | exact sh_wor (by omega) | exact sh_bar (by omega) | exact sh_term (by omega) | exact sh_sheet (by omega) | exact sh_items (by omega) | exact sh_sums (by omega)) rfl ?_
        refine wp_cV (pc := 4) dX11_offer_4 lk_11_104 rfl (by decide) rfl (by first | rfl | assumption | exact sh_house (by omega) | exact sh_wish (by omega) | exact sh_wor (by omega) | exact sh_bar (by omega) | exact sh_term (by omega) | exact sh_sheet (by omega) | exact sh_items (by omega) | exact sh_sums (by omega)) rfl rfl (c_X7_isOpen (fun _ => aK_i ?_) (fun q => absurd hc q))
        refine wp_if_ne (pc := 7) (tgt := 13) dX11_offer_7 rfl (fun _ => ?_) (fun q => absurd q (by decide))
        refine wp_aload_n (pc := 13) dX11_offer_13 (by first | rfl | assumption | (repeat first | assumption | rfl | refine aG_n ?_ rfl rfl)) ?_
        refine wp_aload_n (pc := 14) dX11_offer_14 (by first | rfl | assumption | (repeat first | assumption | rfl | refine aG_n ?_ rfl rfl)) ?_
        refine wp_getR (pc := 15) dX11_offer_15 fl_11_92 (by first | rfl | assumption | exact sh_house (by omega) | exact sh_wish (by omega) | exact sh_wor (by omega) | exact sh_bar (by omega) | exact sh_term (by omega) | exact sh_sheet (by omega) | exact sh_items (by omega) | exact sh_sums (by omega)) rfl ?_
        refine wp_getI (pc := 18) dX11_offer_18 fl_11_218 (by first | rfl | assumption | exact sh_house (by omega) | exact sh_wish (by omega) | exact sh_wor (by omega) | exact sh_bar (by omega) | exact sh_term (by omega) | exact sh_sheet (by omega) | exact sh_items (by omega) | exact sh_sums (by omega)) rfl ?_
        refine wp_aload_n (pc := 21) dX11_offer_21 (by first | rfl | assumption | (repeat first | assumption | rfl | refine aG_n ?_ rfl rfl)) ?_
        refine wp_getR (pc := 22) dX11_offer_22 fl_11_92 (by first | rfl | assumption | exact sh_house (by omega) | exact sh_wish (by omega) | exact sh_wor (by omega) | exact sh_bar (by omega) | exact sh_term (by omega) | exact sh_sheet (by omega) | exact sh_items (by omega) | exact sh_sums (by omega)) rfl ?_
        refine wp_getI (pc := 25) dX11_offer_25 fl_11_221 (by first | rfl | assumption | exact sh_house (by omega) | exact sh_wish (by omega) | exact sh_wor (by omega) | exact sh_bar (by omega) | exact sh_term (by omega) | exact sh_sheet (by omega) | exact sh_items (by omega) | exact sh_sums (by omega)) rfl ?_
        refine wp_iload_n (pc := 28) dX11_offer_28 (by first | rfl | assumption | (repeat first | assumption | rfl | refine aG_n ?_ rfl rfl)) ?_
        refine wp_iload_n (pc := 29) dX11_offer_29 (by first | rfl | assumption | (repeat first | assumption | rfl | refine aG_n ?_ rfl rfl)) ?_
        refine wp_cV (pc := 30) dX11_offer_30 lk_11_168 rfl (by decide) rfl (by first | rfl | assumption | exact sh_house (by omega) | exact sh_wish (by omega) | exact sh_wor (by omega) | exact sh_bar (by omega) | exact sh_term (by omega) | exact sh_sheet (by omega) | exact sh_items (by omega) | exact sh_sums (by omega)) rfl rfl (c_X11_isExchange hI.1 (fun _ => aK_i ?_) (fun q => absurd (by rw [d21, d23]; exact c1) q))
        refine wp_if_ne (pc := 33) (tgt := 38) dX11_offer_33 rfl (fun _ => ?_) (fun q => absurd q (by decide))
        refine wp_aload_n (pc := 38) dX11_offer_38 (by first | rfl | assumption | (repeat first | assumption | rfl | refine aG_n ?_ rfl rfl)) ?_
        refine wp_getR (pc := 39) dX11_offer_39 fl_11_92 (by first | rfl | assumption | exact sh_house (by omega) | exact sh_wish (by omega) | exact sh_wor (by omega) | exact sh_bar (by omega) | exact sh_term (by omega) | exact sh_sheet (by omega) | exact sh_items (by omega) | exact sh_sums (by omega)) rfl ?_
        refine wp_aload_n (pc := 42) dX11_offer_42 (by first | rfl | assumption | (repeat first | assumption | rfl | refine aG_n ?_ rfl rfl)) ?_
        refine wp_getR (pc := 43) dX11_offer_43 fl_11_92 (by first | rfl | assumption | exact sh_house (by omega) | exact sh_wish (by omega) | exact sh_wor (by omega) | exact sh_bar (by omega) | exact sh_term (by omega) | exact sh_sheet (by omega) | exact sh_items (by omega) | exact sh_sums (by omega)) rfl ?_
        refine wp_getI (pc := 46) dX11_offer_46 fl_11_209 (by first | rfl | assumption | exact sh_house (by omega) | exact sh_wish (by omega) | exact sh_wor (by omega) | exact sh_bar (by omega) | exact sh_term (by omega) | exact sh_sheet (by omega) | exact sh_items (by omega) | exact sh_sums (by omega)) rfl ?_
        refine wp_cV (pc := 49) dX11_offer_49 lk_11_224 rfl (by decide) rfl (by first | rfl | assumption | exact sh_house (by omega) | exact sh_wish (by omega) | exact sh_wor (by omega) | exact sh_bar (by omega) | exact sh_term (by omega) | exact sh_sheet (by omega) | exact sh_items (by omega) | exact sh_sums (by omega)) rfl rfl (c_X7_offerKind hw t36 hk75 (fun q => absurd (by rw [t36] at q; exact q) c2) (fun _ => aK_i ?_))
        refine wp_istore_n (pc := 52) dX11_offer_52 (by decide) ?_
        refine wp_aload_n (pc := 53) dX11_offer_53 (by first | rfl | assumption | (repeat first | assumption | rfl | refine aG_n ?_ rfl rfl)) ?_
        refine wp_getR (pc := 54) dX11_offer_54 fl_11_92 (by first | rfl | assumption | exact sh_house (by omega) | exact sh_wish (by omega) | exact sh_wor (by omega) | exact sh_bar (by omega) | exact sh_term (by omega) | exact sh_sheet (by omega) | exact sh_items (by omega) | exact sh_sums (by omega)) rfl ?_
        refine wp_iload_n (pc := 57) dX11_offer_57 (by first | rfl | assumption | (repeat first | assumption | rfl | refine aG_n ?_ rfl rfl)) ?_
        refine wp_iload_n (pc := 58) dX11_offer_58 (by first | rfl | assumption | (repeat first | assumption | rfl | refine aG_n ?_ rfl rfl)) ?_
        refine wp_iload_n (pc := 59) dX11_offer_59 (by first | rfl | assumption | (repeat first | assumption | rfl | refine aG_n ?_ rfl rfl)) ?_
        refine wp_cV (pc := 60) dX11_offer_60 lk_11_215 rfl (by decide) rfl (by first | rfl | assumption | exact sh_house (by omega) | exact sh_wish (by omega) | exact sh_wor (by omega) | exact sh_bar (by omega) | exact sh_term (by omega) | exact sh_sheet (by omega) | exact sh_items (by omega) | exact sh_sums (by omega)) rfl rfl (c_X7_add (kd := 1) (st := nI u) (pr := p) hc t36 d31 hlt d33 (aK_v ?_))
        refine wp_iload_n (pc := 63) dX11_offer_63 (by first | rfl | assumption | (repeat first | assumption | rfl | refine aG_n ?_ rfl rfl)) ?_
        refine wp_ireturn (pc := 64) dX11_offer_64 rfl (by first | rfl | decide | assumption) ?_
        refine k _ _ (fun Q' k' => ?_)
        have s1 : (addM μ.1 w 1 (nI u) p (zOf 1 w mo)) 86 15 = 1 := by rw [addM_ne (by omega)]; exact ho
        have s2 : (addM μ.1 w 1 (nI u) p (zOf 1 w mo)) 86 19 = nI w := by rw [addM_ne (by omega)]; exact t6
        have s3 : (addM μ.1 w 1 (nI u) p (zOf 1 w mo)) 86 18 = nI mo := by rw [addM_ne (by omega)]; exact d32
        have s4 : exE (addM μ.1 w 1 (nI u) p (zOf 1 w mo)) (nI a) (nI b) (nI u) p := (exE_c (fun q => by unfold th; rw [addM_ne (by omega)])).mp c1
        have s5 : (addM μ.1 w 1 (nI u) p (zOf 1 w mo)) 86 16 = nI a := by rw [addM_ne (by omega)]; exact d22
        have s6 : (addM μ.1 w 1 (nI u) p (zOf 1 w mo)) 86 17 = nI b := by rw [addM_ne (by omega)]; exact d24
        have s7 : ofW (addM μ.1 w 1 (nI u) p (zOf 1 w mo)) w (nI w - 1) ↔ ofW μ.1 w (nI w - 1) := ofW_c (addM_ne (by omega))
        refine wp_aload_n (pc := 0) dX12_offer_0 (by first | rfl | assumption | (repeat first | assumption | rfl | refine aG_n ?_ rfl rfl)) ?_
        refine wp_cV (pc := 1) dX12_offer_1 lk_12_147 rfl (by decide) rfl (by first | rfl | assumption | exact sh_house (by omega) | exact sh_wish (by omega) | exact sh_wor (by omega) | exact sh_bar (by omega) | exact sh_term (by omega) | exact sh_sheet (by omega) | exact sh_items (by omega) | exact sh_sums (by omega)) rfl rfl (c_X12_isTalking (fun _ => aK_i ?_) (fun q => absurd s1 q))
        refine wp_if_ne (pc := 4) (tgt := 10) dX12_offer_4 rfl (fun _ => ?_) (fun q => absurd q (by decide))
        refine wp_aload_n (pc := 10) dX12_offer_10 (by first | rfl | assumption | (repeat first | assumption | rfl | refine aG_n ?_ rfl rfl)) ?_
        refine wp_aload_n (pc := 11) dX12_offer_11 (by first | rfl | assumption | (repeat first | assumption | rfl | refine aG_n ?_ rfl rfl)) ?_
        refine wp_getI (pc := 12) dX12_offer_12 fl_12_235 (by first | rfl | assumption | exact sh_house (by omega) | exact sh_wish (by omega) | exact sh_wor (by omega) | exact sh_bar (by omega) | exact sh_term (by omega) | exact sh_sheet (by omega) | exact sh_items (by omega) | exact sh_sums (by omega)) rfl ?_
        refine wp_aload_n (pc := 15) dX12_offer_15 (by first | rfl | assumption | (repeat first | assumption | rfl | refine aG_n ?_ rfl rfl)) ?_
        refine wp_getI (pc := 16) dX12_offer_16 fl_12_238 (by first | rfl | assumption | exact sh_house (by omega) | exact sh_wish (by omega) | exact sh_wor (by omega) | exact sh_bar (by omega) | exact sh_term (by omega) | exact sh_sheet (by omega) | exact sh_items (by omega) | exact sh_sums (by omega)) rfl ?_
        refine wp_iload_n (pc := 19) dX12_offer_19 (by first | rfl | assumption | (repeat first | assumption | rfl | refine aG_n ?_ rfl rfl)) ?_
        refine wp_iload_n (pc := 20) dX12_offer_20 (by first | rfl | assumption | (repeat first | assumption | rfl | refine aG_n ?_ rfl rfl)) ?_
        refine wp_cV (pc := 21) dX12_offer_21 lk_12_220 rfl (by decide) rfl (by first | rfl | assumption | exact sh_house (by omega) | exact sh_wish (by omega) | exact sh_wor (by omega) | exact sh_bar (by omega) | exact sh_term (by omega) | exact sh_sheet (by omega) | exact sh_items (by omega) | exact sh_sums (by omega)) rfl rfl (c_X12_isExchange (fun _ => aK_i ?_) (fun q => absurd (by dsimp only; rw [s5, s6]; exact s4) q))
        refine wp_if_eq (pc := 24) (tgt := 36) dX12_offer_24 rfl (fun q => absurd q (by decide)) (fun _ => ?_)
        refine wp_aload_n (pc := 27) dX12_offer_27 (by first | rfl | assumption | (repeat first | assumption | rfl | refine aG_n ?_ rfl rfl)) ?_
        refine wp_iload_n (pc := 28) dX12_offer_28 (by first | rfl | assumption | (repeat first | assumption | rfl | refine aG_n ?_ rfl rfl)) ?_
        refine wp_iload_n (pc := 29) dX12_offer_29 (by first | rfl | assumption | (repeat first | assumption | rfl | refine aG_n ?_ rfl rfl)) ?_
        refine wp_cV (pc := 30) dX12_offer_30 lk_12_269 rfl (by decide) rfl (by first | rfl | assumption | exact sh_house (by omega) | exact sh_wish (by omega) | exact sh_wor (by omega) | exact sh_bar (by omega) | exact sh_term (by omega) | exact sh_sheet (by omega) | exact sh_items (by omega) | exact sh_sums (by omega)) rfl rfl ?_
        refine wp_aload_n (pc := 0) dX12_sayOffer_0 (by first | rfl | assumption | (repeat first | assumption | rfl | refine aG_n ?_ rfl rfl)) ?_
        refine wp_aload_n (pc := 1) dX12_sayOffer_1 (by first | rfl | assumption | (repeat first | assumption | rfl | refine aG_n ?_ rfl rfl)) ?_
        refine wp_getI (pc := 2) dX12_sayOffer_2 fl_12_244 (by first | rfl | assumption | exact sh_house (by omega) | exact sh_wish (by omega) | exact sh_wor (by omega) | exact sh_bar (by omega) | exact sh_term (by omega) | exact sh_sheet (by omega) | exact sh_items (by omega) | exact sh_sums (by omega)) rfl ?_
        refine wp_iconst (pc := 5) (v := 1) dX12_sayOffer_5 (by decide) ?_
        refine wp_isub (pc := 6) dX12_sayOffer_6 ?_
        refine wp_cV (pc := 7) dX12_sayOffer_7 lk_12_266 rfl (by decide) rfl (by first | rfl | assumption | exact sh_house (by omega) | exact sh_wish (by omega) | exact sh_wor (by omega) | exact sh_bar (by omega) | exact sh_term (by omega) | exact sh_sheet (by omega) | exact sh_items (by omega) | exact sh_sums (by omega)) rfl rfl (c_X12_isOffer hw s2 (fun q => absurd q (by dsimp only; rw [s2]; exact fun z => c2 (s7.mp z))) (fun _ => aK_i ?_))
        refine wp_if_eq (pc := 10) (tgt := 17) dX12_sayOffer_10 rfl (fun _ => ?_) (fun q => absurd q (by decide))
        refine wp_iconst (pc := 17) (v := 1) dX12_sayOffer_17 (by decide) ?_
        refine wp_istore_n (pc := 18) dX12_sayOffer_18 (by decide) ?_
        refine wp_aload_n (pc := 19) dX12_sayOffer_19 (by first | rfl | assumption | (repeat first | assumption | rfl | refine aG_n ?_ rfl rfl)) ?_
        refine wp_iload_n (pc := 20) dX12_sayOffer_20 (by first | rfl | assumption | (repeat first | assumption | rfl | refine aG_n ?_ rfl rfl)) ?_
        refine wp_iload_n (pc := 21) dX12_sayOffer_21 (by first | rfl | assumption | (repeat first | assumption | rfl | refine aG_n ?_ rfl rfl)) ?_
        refine wp_iload_n (pc := 22) dX12_sayOffer_22 (by first | rfl | assumption | (repeat first | assumption | rfl | refine aG_n ?_ rfl rfl)) ?_
        refine wp_cV (pc := 23) dX12_sayOffer_23 lk_12_262 rfl (by decide) rfl (by first | rfl | assumption | exact sh_house (by omega) | exact sh_wish (by omega) | exact sh_wor (by omega) | exact sh_bar (by omega) | exact sh_term (by omega) | exact sh_sheet (by omega) | exact sh_items (by omega) | exact sh_sums (by omega)) rfl rfl (c_X12_say s2 s1 s3 hlt d33 (aK_v ?_))
        refine wp_iload_n (pc := 26) dX12_sayOffer_26 (by first | rfl | assumption | (repeat first | assumption | rfl | refine aG_n ?_ rfl rfl)) ?_
        refine wp_iretK (pc := 27) dX12_sayOffer_27 rfl (by first | rfl | decide | assumption) ?_
        refine wp_goto (pc := 33) (tgt := 37) dX12_offer_33 rfl ?_
        refine wp_ireturn (pc := 37) dX12_offer_37 rfl (by first | rfl | decide | assumption) ?_
        exact k' _ (Inv_say hI ho t6 hw d32 d33 (by unfold inR; decide) (fun _ => ⟨⟨u, hu, rfl⟩, hp, ⟨fun z => absurd z (by decide), fun z => absurd ((ofW_p hw (Nat.le_refl w)).mpr z) c2⟩⟩) (fun z => absurd (Or.inl rfl) z) (fun _ => by rw [(d9 ho).1, (d9 ho).2.1]; exact (exE_mk ha hb hab hu hp).mp c1))
    · skip
      refine wp_aload_n (pc := 0) dX11_offer_0 (by first | rfl | assumption | (repeat first | assumption | rfl | refine aG_n ?_ rfl rfl)) ?_
      refine wp_getR (pc := 1) dX11_offer_1 fl_11_92 (by first | rfl | assumption | exact sh_house (by omega) | exact sh_wish (by omega) | exact sh_wor (by omega) | exact sh_bar (by omega) | exact sh_term (by omega) | exact sh_sheet (by omega) | exact sh_items (by omega) | exact sh_sums (by omega)) rfl ?_
      refine wp_cV (pc := 4) dX11_offer_4 lk_11_104 rfl (by decide) rfl (by first | rfl | assumption | exact sh_house (by omega) | exact sh_wish (by omega) | exact sh_wor (by omega) | exact sh_bar (by omega) | exact sh_term (by omega) | exact sh_sheet (by omega) | exact sh_items (by omega) | exact sh_sums (by omega)) rfl rfl (c_X7_isOpen (fun _ => aK_i ?_) (fun q => absurd hc q))
      refine wp_if_ne (pc := 7) (tgt := 13) dX11_offer_7 rfl (fun _ => ?_) (fun q => absurd q (by decide))
      refine wp_aload_n (pc := 13) dX11_offer_13 (by first | rfl | assumption | (repeat first | assumption | rfl | refine aG_n ?_ rfl rfl)) ?_
      refine wp_aload_n (pc := 14) dX11_offer_14 (by first | rfl | assumption | (repeat first | assumption | rfl | refine aG_n ?_ rfl rfl)) ?_
      refine wp_getR (pc := 15) dX11_offer_15 fl_11_92 (by first | rfl | assumption | exact sh_house (by omega) | exact sh_wish (by omega) | exact sh_wor (by omega) | exact sh_bar (by omega) | exact sh_term (by omega) | exact sh_sheet (by omega) | exact sh_items (by omega) | exact sh_sums (by omega)) rfl ?_
      refine wp_getI (pc := 18) dX11_offer_18 fl_11_218 (by first | rfl | assumption | exact sh_house (by omega) | exact sh_wish (by omega) | exact sh_wor (by omega) | exact sh_bar (by omega) | exact sh_term (by omega) | exact sh_sheet (by omega) | exact sh_items (by omega) | exact sh_sums (by omega)) rfl ?_
      refine wp_aload_n (pc := 21) dX11_offer_21 (by first | rfl | assumption | (repeat first | assumption | rfl | refine aG_n ?_ rfl rfl)) ?_
      refine wp_getR (pc := 22) dX11_offer_22 fl_11_92 (by first | rfl | assumption | exact sh_house (by omega) | exact sh_wish (by omega) | exact sh_wor (by omega) | exact sh_bar (by omega) | exact sh_term (by omega) | exact sh_sheet (by omega) | exact sh_items (by omega) | exact sh_sums (by omega)) rfl ?_
      refine wp_getI (pc := 25) dX11_offer_25 fl_11_221 (by first | rfl | assumption | exact sh_house (by omega) | exact sh_wish (by omega) | exact sh_wor (by omega) | exact sh_bar (by omega) | exact sh_term (by omega) | exact sh_sheet (by omega) | exact sh_items (by omega) | exact sh_sums (by omega)) rfl ?_
      refine wp_iload_n (pc := 28) dX11_offer_28 (by first | rfl | assumption | (repeat first | assumption | rfl | refine aG_n ?_ rfl rfl)) ?_
      refine wp_iload_n (pc := 29) dX11_offer_29 (by first | rfl | assumption | (repeat first | assumption | rfl | refine aG_n ?_ rfl rfl)) ?_
      refine wp_cV (pc := 30) dX11_offer_30 lk_11_168 rfl (by decide) rfl (by first | rfl | assumption | exact sh_house (by omega) | exact sh_wish (by omega) | exact sh_wor (by omega) | exact sh_bar (by omega) | exact sh_term (by omega) | exact sh_sheet (by omega) | exact sh_items (by omega) | exact sh_sums (by omega)) rfl rfl (c_X11_isExchange hI.1 (fun q => absurd q (by rw [d21, d23]; exact c1)) (fun _ => aK_i ?_))
      refine wp_if_ne (pc := 33) (tgt := 38) dX11_offer_33 rfl (fun q => absurd q (by decide)) (fun _ => ?_)
      refine wp_iconst (pc := 36) (v := -1) dX11_offer_36 (by decide) ?_
      refine wp_ireturn (pc := 37) dX11_offer_37 rfl (by first | rfl | decide | assumption) ?_
      refine k _ _ (fun Q' k' => ?_)
      refine wp_aload_n (pc := 0) dX12_offer_0 (by first | rfl | assumption | (repeat first | assumption | rfl | refine aG_n ?_ rfl rfl)) ?_
      refine wp_cV (pc := 1) dX12_offer_1 lk_12_147 rfl (by decide) rfl (by first | rfl | assumption | exact sh_house (by omega) | exact sh_wish (by omega) | exact sh_wor (by omega) | exact sh_bar (by omega) | exact sh_term (by omega) | exact sh_sheet (by omega) | exact sh_items (by omega) | exact sh_sums (by omega)) rfl rfl (c_X12_isTalking (fun _ => aK_i ?_) (fun q => absurd ho q))
      refine wp_if_ne (pc := 4) (tgt := 10) dX12_offer_4 rfl (fun _ => ?_) (fun q => absurd q (by decide))
      refine wp_aload_n (pc := 10) dX12_offer_10 (by first | rfl | assumption | (repeat first | assumption | rfl | refine aG_n ?_ rfl rfl)) ?_
      refine wp_aload_n (pc := 11) dX12_offer_11 (by first | rfl | assumption | (repeat first | assumption | rfl | refine aG_n ?_ rfl rfl)) ?_
      refine wp_getI (pc := 12) dX12_offer_12 fl_12_235 (by first | rfl | assumption | exact sh_house (by omega) | exact sh_wish (by omega) | exact sh_wor (by omega) | exact sh_bar (by omega) | exact sh_term (by omega) | exact sh_sheet (by omega) | exact sh_items (by omega) | exact sh_sums (by omega)) rfl ?_
      refine wp_aload_n (pc := 15) dX12_offer_15 (by first | rfl | assumption | (repeat first | assumption | rfl | refine aG_n ?_ rfl rfl)) ?_
      refine wp_getI (pc := 16) dX12_offer_16 fl_12_238 (by first | rfl | assumption | exact sh_house (by omega) | exact sh_wish (by omega) | exact sh_wor (by omega) | exact sh_bar (by omega) | exact sh_term (by omega) | exact sh_sheet (by omega) | exact sh_items (by omega) | exact sh_sums (by omega)) rfl ?_
      refine wp_iload_n (pc := 19) dX12_offer_19 (by first | rfl | assumption | (repeat first | assumption | rfl | refine aG_n ?_ rfl rfl)) ?_
      refine wp_iload_n (pc := 20) dX12_offer_20 (by first | rfl | assumption | (repeat first | assumption | rfl | refine aG_n ?_ rfl rfl)) ?_
      refine wp_cV (pc := 21) dX12_offer_21 lk_12_220 rfl (by decide) rfl (by first | rfl | assumption | exact sh_house (by omega) | exact sh_wish (by omega) | exact sh_wor (by omega) | exact sh_bar (by omega) | exact sh_term (by omega) | exact sh_sheet (by omega) | exact sh_items (by omega) | exact sh_sums (by omega)) rfl rfl (c_X12_isExchange (fun q => absurd q (by rw [d22, d24]; exact c1)) (fun _ => aK_i ?_))
      refine wp_if_eq (pc := 24) (tgt := 36) dX12_offer_24 rfl (fun _ => ?_) (fun q => absurd q (by decide))
      refine wp_iconst (pc := 36) (v := -1) dX12_offer_36 (by decide) ?_
      refine wp_ireturn (pc := 37) dX12_offer_37 rfl (by first | rfl | decide | assumption) ?_
      exact k' _ hI
  · skip
    have hc : ¬ μ.1 73 0 = 1 := fun z => ho (t1.symm.trans z)
    refine wp_aload_n (pc := 0) dX11_offer_0 (by first | rfl | assumption | (repeat first | assumption | rfl | refine aG_n ?_ rfl rfl)) ?_
    refine wp_getR (pc := 1) dX11_offer_1 fl_11_92 (by first | rfl | assumption | exact sh_house (by omega) | exact sh_wish (by omega) | exact sh_wor (by omega) | exact sh_bar (by omega) | exact sh_term (by omega) | exact sh_sheet (by omega) | exact sh_items (by omega) | exact sh_sums (by omega)) rfl ?_
    refine wp_cV (pc := 4) dX11_offer_4 lk_11_104 rfl (by decide) rfl (by first | rfl | assumption | exact sh_house (by omega) | exact sh_wish (by omega) | exact sh_wor (by omega) | exact sh_bar (by omega) | exact sh_term (by omega) | exact sh_sheet (by omega) | exact sh_items (by omega) | exact sh_sums (by omega)) rfl rfl (c_X7_isOpen (fun q => absurd q hc) (fun _ => aK_i ?_))
    refine wp_if_ne (pc := 7) (tgt := 13) dX11_offer_7 rfl (fun q => absurd q (by decide)) (fun _ => ?_)
    refine wp_bipush (pc := 10) (v := -2) dX11_offer_10 (by decide) ?_
    refine wp_ireturn (pc := 12) dX11_offer_12 rfl (by first | rfl | decide | assumption) ?_
    refine k _ _ (fun Q' k' => ?_)
    refine wp_aload_n (pc := 0) dX12_offer_0 (by first | rfl | assumption | (repeat first | assumption | rfl | refine aG_n ?_ rfl rfl)) ?_
    refine wp_cV (pc := 1) dX12_offer_1 lk_12_147 rfl (by decide) rfl (by first | rfl | assumption | exact sh_house (by omega) | exact sh_wish (by omega) | exact sh_wor (by omega) | exact sh_bar (by omega) | exact sh_term (by omega) | exact sh_sheet (by omega) | exact sh_items (by omega) | exact sh_sums (by omega)) rfl rfl (c_X12_isTalking (fun q => absurd q ho) (fun _ => aK_i ?_))
    refine wp_if_ne (pc := 4) (tgt := 10) dX12_offer_4 rfl (fun q => absurd q (by decide)) (fun _ => ?_)
    refine wp_bipush (pc := 7) (v := -2) dX12_offer_7 (by decide) ?_
    refine wp_ireturn (pc := 9) dX12_offer_9 rfl (by first | rfl | decide | assumption) ?_
    exact k' _ hI
theorem J_word (i wh : Int32) : Jnt mX11_word mX12_word [.int i, .int wh] := by
  intro X μ Q hI k
  have hT := hI.2.2.2.2.2.1
  obtain ⟨t1, t2, t3, t4, w, hw, t6, t7, t8⟩ := id hT
  have t36 : μ.1 73 3 = nI w := t3.trans t6
  have hk75 : ∀ q, q < 20 → μ.1 75 q = μ.1 100 q := fun q hq => (t4 q hq).1
  by_cases c1 : inT i w
  · have c1' := (in_le (by omega) t6).mpr c1
    by_cases c2 : inR wh 0 1
    · obtain ⟨q, hq, rfl⟩ := inT_of c1
      obtain ⟨d, hd, rfl⟩ := inR_of (n := 1) c2
      have cq : (nI q).toNatClampNeg = q := nI_clamp (by omega)
      have hn0 : ¬ μ.1 86 15 = 0 := fun z => by have := t7 z; omega
      obtain ⟨a, b, mo, ⟨ha, hb, hab⟩, ⟨d21, d22, d23, d24⟩, -⟩ := t8 hn0
      obtain rfl | rfl : d = 0 ∨ d = 1 := by omega
      · skip
        refine wp_aload_n (pc := 0) dX11_word_0 (by first | rfl | assumption | (repeat first | assumption | rfl | refine aG_n ?_ rfl rfl)) ?_
        refine wp_getR (pc := 1) dX11_word_1 fl_11_92 (by first | rfl | assumption | exact sh_house (by omega) | exact sh_wish (by omega) | exact sh_wor (by omega) | exact sh_bar (by omega) | exact sh_term (by omega) | exact sh_sheet (by omega) | exact sh_items (by omega) | exact sh_sums (by omega)) rfl ?_
        refine wp_iload_n (pc := 4) dX11_word_4 (by first | rfl | assumption | (repeat first | assumption | rfl | refine aG_n ?_ rfl rfl)) ?_
        refine wp_cV (pc := 5) dX11_word_5 lk_11_246 rfl (by decide) rfl (by first | rfl | assumption | exact sh_house (by omega) | exact sh_wish (by omega) | exact sh_wor (by omega) | exact sh_bar (by omega) | exact sh_term (by omega) | exact sh_sheet (by omega) | exact sh_items (by omega) | exact sh_sums (by omega)) rfl rfl (c_X7_hasWord hw t36 (fun _ => aK_i ?_) (fun q => absurd c1 q))
        refine wp_if_eq (pc := 8) (tgt := 20) dX11_word_8 rfl (fun q => absurd q (by decide)) (fun _ => ?_)
        refine wp_iload_n (pc := 11) dX11_word_11 (by first | rfl | assumption | (repeat first | assumption | rfl | refine aG_n ?_ rfl rfl)) ?_
        refine wp_iconst (pc := 12) (v := 0) dX11_word_12 (by decide) ?_
        refine wp_iconst (pc := 13) (v := 1) dX11_word_13 (by decide) ?_
        refine wp_cS (pc := 14) dX11_word_14 lk_11_112 rfl rfl rfl (c_X11_isWithin (fun _ => aK_i ?_) (fun q => absurd c2 q))
        refine wp_if_ne (pc := 17) (tgt := 22) dX11_word_17 rfl (fun _ => ?_) (fun q => absurd q (by decide))
        refine wp_iload_n (pc := 22) dX11_word_22 (by first | rfl | assumption | (repeat first | assumption | rfl | refine aG_n ?_ rfl rfl)) ?_
        refine wp_if_ne (pc := 23) (tgt := 37) dX11_word_23 rfl (fun q => absurd rfl q) (fun _ => ?_)
        refine wp_aload_n (pc := 26) dX11_word_26 (by first | rfl | assumption | (repeat first | assumption | rfl | refine aG_n ?_ rfl rfl)) ?_
        refine wp_getR (pc := 27) dX11_word_27 fl_11_92 (by first | rfl | assumption | exact sh_house (by omega) | exact sh_wish (by omega) | exact sh_wor (by omega) | exact sh_bar (by omega) | exact sh_term (by omega) | exact sh_sheet (by omega) | exact sh_items (by omega) | exact sh_sums (by omega)) rfl ?_
        refine wp_iload_n (pc := 30) dX11_word_30 (by first | rfl | assumption | (repeat first | assumption | rfl | refine aG_n ?_ rfl rfl)) ?_
        refine wp_cV (pc := 31) dX11_word_31 lk_11_249 rfl (by decide) rfl (by first | rfl | assumption | exact sh_house (by omega) | exact sh_wish (by omega) | exact sh_wor (by omega) | exact sh_bar (by omega) | exact sh_term (by omega) | exact sh_sheet (by omega) | exact sh_items (by omega) | exact sh_sums (by omega)) rfl rfl (c_X7_kindAt hw t36 hq (aK_i ?_))
        refine wp_goto (pc := 34) (tgt := 45) dX11_word_34 rfl ?_
        refine wp_ireturn (pc := 45) dX11_word_45 rfl (by first | rfl | decide | assumption) ?_
        refine k _ _ (fun Q' k' => ?_)
        refine wp_iload_n (pc := 0) dX12_word_0 (by first | rfl | assumption | (repeat first | assumption | rfl | refine aG_n ?_ rfl rfl)) ?_
        refine wp_i2l (pc := 1) dX12_word_1 ?_
        refine wp_lconst (pc := 2) (v := 0) dX12_word_2 (by decide) ?_
        refine wp_aload_n (pc := 3) dX12_word_3 (by first | rfl | assumption | (repeat first | assumption | rfl | refine aG_n ?_ rfl rfl)) ?_
        refine wp_getI (pc := 4) dX12_word_4 fl_12_244 (by first | rfl | assumption | exact sh_house (by omega) | exact sh_wish (by omega) | exact sh_wor (by omega) | exact sh_bar (by omega) | exact sh_term (by omega) | exact sh_sheet (by omega) | exact sh_items (by omega) | exact sh_sums (by omega)) rfl ?_
        refine wp_iconst (pc := 7) (v := 1) dX12_word_7 (by decide) ?_
        refine wp_isub (pc := 8) dX12_word_8 ?_
        refine wp_i2l (pc := 9) dX12_word_9 ?_
        refine wp_cS (pc := 10) dX12_word_10 lk_12_133 rfl rfl rfl (c_X12_in (fun _ => aK_i ?_) (fun q => absurd c1' q))
        refine wp_if_eq (pc := 13) (tgt := 26) dX12_word_13 rfl (fun q => absurd q (by decide)) (fun _ => ?_)
        refine wp_iload_n (pc := 16) dX12_word_16 (by first | rfl | assumption | (repeat first | assumption | rfl | refine aG_n ?_ rfl rfl)) ?_
        refine wp_i2l (pc := 17) dX12_word_17 ?_
        refine wp_lconst (pc := 18) (v := 0) dX12_word_18 (by decide) ?_
        refine wp_lconst (pc := 19) (v := 1) dX12_word_19 (by decide) ?_
        refine wp_cS (pc := 20) dX12_word_20 lk_12_133 rfl rfl rfl (c_X12_in (fun _ => aK_i ?_) (fun q => absurd (by rw [w_int]; exact c2) q))
        refine wp_if_ne (pc := 23) (tgt := 28) dX12_word_23 rfl (fun _ => ?_) (fun q => absurd q (by decide))
        refine wp_iload_n (pc := 28) dX12_word_28 (by first | rfl | assumption | (repeat first | assumption | rfl | refine aG_n ?_ rfl rfl)) ?_
        refine wp_if_ne (pc := 29) (tgt := 41) dX12_word_29 rfl (fun q => absurd rfl q) (fun _ => ?_)
        refine wp_aload_n (pc := 32) dX12_word_32 (by first | rfl | assumption | (repeat first | assumption | rfl | refine aG_n ?_ rfl rfl)) ?_
        refine wp_getR (pc := 33) dX12_word_33 fl_12_50 (by first | rfl | assumption | exact sh_house (by omega) | exact sh_wish (by omega) | exact sh_wor (by omega) | exact sh_bar (by omega) | exact sh_term (by omega) | exact sh_sheet (by omega) | exact sh_items (by omega) | exact sh_sums (by omega)) rfl ?_
        refine wp_iload_n (pc := 36) dX12_word_36 (by first | rfl | assumption | (repeat first | assumption | rfl | refine aG_n ?_ rfl rfl)) ?_
        refine wp_iald (pc := 37) dX12_word_37 (by first | rfl | assumption | exact sh_house (by omega) | exact sh_wish (by omega) | exact sh_wor (by omega) | exact sh_bar (by omega) | exact sh_term (by omega) | exact sh_sheet (by omega) | exact sh_items (by omega) | exact sh_sums (by omega)) (vp_in_nI (by omega) (by decide)) ?_
        refine wp_goto (pc := 38) (tgt := 46) dX12_word_38 rfl ?_
        refine wp_ireturn (pc := 46) dX12_word_46 rfl (by first | rfl | decide | assumption) ?_
        refine qEq ?_ (k' _ hI); rw [cq]; exact (t4 q (by omega)).1.symm
      · skip
        refine wp_aload_n (pc := 0) dX11_word_0 (by first | rfl | assumption | (repeat first | assumption | rfl | refine aG_n ?_ rfl rfl)) ?_
        refine wp_getR (pc := 1) dX11_word_1 fl_11_92 (by first | rfl | assumption | exact sh_house (by omega) | exact sh_wish (by omega) | exact sh_wor (by omega) | exact sh_bar (by omega) | exact sh_term (by omega) | exact sh_sheet (by omega) | exact sh_items (by omega) | exact sh_sums (by omega)) rfl ?_
        refine wp_iload_n (pc := 4) dX11_word_4 (by first | rfl | assumption | (repeat first | assumption | rfl | refine aG_n ?_ rfl rfl)) ?_
        refine wp_cV (pc := 5) dX11_word_5 lk_11_246 rfl (by decide) rfl (by first | rfl | assumption | exact sh_house (by omega) | exact sh_wish (by omega) | exact sh_wor (by omega) | exact sh_bar (by omega) | exact sh_term (by omega) | exact sh_sheet (by omega) | exact sh_items (by omega) | exact sh_sums (by omega)) rfl rfl (c_X7_hasWord hw t36 (fun _ => aK_i ?_) (fun q => absurd c1 q))
        refine wp_if_eq (pc := 8) (tgt := 20) dX11_word_8 rfl (fun q => absurd q (by decide)) (fun _ => ?_)
        refine wp_iload_n (pc := 11) dX11_word_11 (by first | rfl | assumption | (repeat first | assumption | rfl | refine aG_n ?_ rfl rfl)) ?_
        refine wp_iconst (pc := 12) (v := 0) dX11_word_12 (by decide) ?_
        refine wp_iconst (pc := 13) (v := 1) dX11_word_13 (by decide) ?_
        refine wp_cS (pc := 14) dX11_word_14 lk_11_112 rfl rfl rfl (c_X11_isWithin (fun _ => aK_i ?_) (fun q => absurd c2 q))
        refine wp_if_ne (pc := 17) (tgt := 22) dX11_word_17 rfl (fun _ => ?_) (fun q => absurd q (by decide))
        refine wp_iload_n (pc := 22) dX11_word_22 (by first | rfl | assumption | (repeat first | assumption | rfl | refine aG_n ?_ rfl rfl)) ?_
        refine wp_if_ne (pc := 23) (tgt := 37) dX11_word_23 rfl (fun _ => ?_) (fun q => absurd q (by decide))
        refine wp_aload_n (pc := 37) dX11_word_37 (by first | rfl | assumption | (repeat first | assumption | rfl | refine aG_n ?_ rfl rfl)) ?_
        refine wp_getR (pc := 38) dX11_word_38 fl_11_92 (by first | rfl | assumption | exact sh_house (by omega) | exact sh_wish (by omega) | exact sh_wor (by omega) | exact sh_bar (by omega) | exact sh_term (by omega) | exact sh_sheet (by omega) | exact sh_items (by omega) | exact sh_sums (by omega)) rfl ?_
        refine wp_iload_n (pc := 41) dX11_word_41 (by first | rfl | assumption | (repeat first | assumption | rfl | refine aG_n ?_ rfl rfl)) ?_
        refine wp_cV (pc := 42) dX11_word_42 lk_11_212 rfl (by decide) rfl (by first | rfl | assumption | exact sh_house (by omega) | exact sh_wish (by omega) | exact sh_wor (by omega) | exact sh_bar (by omega) | exact sh_term (by omega) | exact sh_sheet (by omega) | exact sh_items (by omega) | exact sh_sums (by omega)) rfl rfl (c_X7_partyOf (show q < 2 ^ 31 by omega) (aK_i ?_))
        refine wp_ireturn (pc := 45) dX11_word_45 rfl (by first | rfl | decide | assumption) ?_
        refine k _ _ (fun Q' k' => ?_)
        refine wp_iload_n (pc := 0) dX12_word_0 (by first | rfl | assumption | (repeat first | assumption | rfl | refine aG_n ?_ rfl rfl)) ?_
        refine wp_i2l (pc := 1) dX12_word_1 ?_
        refine wp_lconst (pc := 2) (v := 0) dX12_word_2 (by decide) ?_
        refine wp_aload_n (pc := 3) dX12_word_3 (by first | rfl | assumption | (repeat first | assumption | rfl | refine aG_n ?_ rfl rfl)) ?_
        refine wp_getI (pc := 4) dX12_word_4 fl_12_244 (by first | rfl | assumption | exact sh_house (by omega) | exact sh_wish (by omega) | exact sh_wor (by omega) | exact sh_bar (by omega) | exact sh_term (by omega) | exact sh_sheet (by omega) | exact sh_items (by omega) | exact sh_sums (by omega)) rfl ?_
        refine wp_iconst (pc := 7) (v := 1) dX12_word_7 (by decide) ?_
        refine wp_isub (pc := 8) dX12_word_8 ?_
        refine wp_i2l (pc := 9) dX12_word_9 ?_
        refine wp_cS (pc := 10) dX12_word_10 lk_12_133 rfl rfl rfl (c_X12_in (fun _ => aK_i ?_) (fun q => absurd c1' q))
        refine wp_if_eq (pc := 13) (tgt := 26) dX12_word_13 rfl (fun q => absurd q (by decide)) (fun _ => ?_)
        refine wp_iload_n (pc := 16) dX12_word_16 (by first | rfl | assumption | (repeat first | assumption | rfl | refine aG_n ?_ rfl rfl)) ?_
        refine wp_i2l (pc := 17) dX12_word_17 ?_
        refine wp_lconst (pc := 18) (v := 0) dX12_word_18 (by decide) ?_
        refine wp_lconst (pc := 19) (v := 1) dX12_word_19 (by decide) ?_
        refine wp_cS (pc := 20) dX12_word_20 lk_12_133 rfl rfl rfl (c_X12_in (fun _ => aK_i ?_) (fun q => absurd (by rw [w_int]; exact c2) q))
        refine wp_if_ne (pc := 23) (tgt := 28) dX12_word_23 rfl (fun _ => ?_) (fun q => absurd q (by decide))
        refine wp_iload_n (pc := 28) dX12_word_28 (by first | rfl | assumption | (repeat first | assumption | rfl | refine aG_n ?_ rfl rfl)) ?_
        refine wp_if_ne (pc := 29) (tgt := 41) dX12_word_29 rfl (fun _ => ?_) (fun q => absurd q (by decide))
        refine wp_aload_n (pc := 41) dX12_word_41 (by first | rfl | assumption | (repeat first | assumption | rfl | refine aG_n ?_ rfl rfl)) ?_
        refine wp_iload_n (pc := 42) dX12_word_42 (by first | rfl | assumption | (repeat first | assumption | rfl | refine aG_n ?_ rfl rfl)) ?_
        refine wp_cV (pc := 43) dX12_word_43 lk_12_259 rfl (by decide) rfl (by first | rfl | assumption | exact sh_house (by omega) | exact sh_wish (by omega) | exact sh_wor (by omega) | exact sh_bar (by omega) | exact sh_term (by omega) | exact sh_sheet (by omega) | exact sh_items (by omega) | exact sh_sums (by omega)) rfl rfl (c_X12_whose (show q < 2 ^ 31 by omega) (aK_i ?_))
        refine wp_ireturn (pc := 46) dX12_word_46 rfl (by first | rfl | decide | assumption) ?_
        refine qEq ?_ (k' _ hI); rw [d21, d22, d23, d24]
    · skip
      refine wp_aload_n (pc := 0) dX11_word_0 (by first | rfl | assumption | (repeat first | assumption | rfl | refine aG_n ?_ rfl rfl)) ?_
      refine wp_getR (pc := 1) dX11_word_1 fl_11_92 (by first | rfl | assumption | exact sh_house (by omega) | exact sh_wish (by omega) | exact sh_wor (by omega) | exact sh_bar (by omega) | exact sh_term (by omega) | exact sh_sheet (by omega) | exact sh_items (by omega) | exact sh_sums (by omega)) rfl ?_
      refine wp_iload_n (pc := 4) dX11_word_4 (by first | rfl | assumption | (repeat first | assumption | rfl | refine aG_n ?_ rfl rfl)) ?_
      refine wp_cV (pc := 5) dX11_word_5 lk_11_246 rfl (by decide) rfl (by first | rfl | assumption | exact sh_house (by omega) | exact sh_wish (by omega) | exact sh_wor (by omega) | exact sh_bar (by omega) | exact sh_term (by omega) | exact sh_sheet (by omega) | exact sh_items (by omega) | exact sh_sums (by omega)) rfl rfl (c_X7_hasWord hw t36 (fun _ => aK_i ?_) (fun q => absurd c1 q))
      refine wp_if_eq (pc := 8) (tgt := 20) dX11_word_8 rfl (fun q => absurd q (by decide)) (fun _ => ?_)
      refine wp_iload_n (pc := 11) dX11_word_11 (by first | rfl | assumption | (repeat first | assumption | rfl | refine aG_n ?_ rfl rfl)) ?_
      refine wp_iconst (pc := 12) (v := 0) dX11_word_12 (by decide) ?_
      refine wp_iconst (pc := 13) (v := 1) dX11_word_13 (by decide) ?_
      refine wp_cS (pc := 14) dX11_word_14 lk_11_112 rfl rfl rfl (c_X11_isWithin (fun q => absurd q c2) (fun _ => aK_i ?_))
      refine wp_if_ne (pc := 17) (tgt := 22) dX11_word_17 rfl (fun q => absurd q (by decide)) (fun _ => ?_)
      refine wp_iconst (pc := 20) (v := -1) dX11_word_20 (by decide) ?_
      refine wp_ireturn (pc := 21) dX11_word_21 rfl (by first | rfl | decide | assumption) ?_
      refine k _ _ (fun Q' k' => ?_)
      refine wp_iload_n (pc := 0) dX12_word_0 (by first | rfl | assumption | (repeat first | assumption | rfl | refine aG_n ?_ rfl rfl)) ?_
      refine wp_i2l (pc := 1) dX12_word_1 ?_
      refine wp_lconst (pc := 2) (v := 0) dX12_word_2 (by decide) ?_
      refine wp_aload_n (pc := 3) dX12_word_3 (by first | rfl | assumption | (repeat first | assumption | rfl | refine aG_n ?_ rfl rfl)) ?_
      refine wp_getI (pc := 4) dX12_word_4 fl_12_244 (by first | rfl | assumption | exact sh_house (by omega) | exact sh_wish (by omega) | exact sh_wor (by omega) | exact sh_bar (by omega) | exact sh_term (by omega) | exact sh_sheet (by omega) | exact sh_items (by omega) | exact sh_sums (by omega)) rfl ?_
      refine wp_iconst (pc := 7) (v := 1) dX12_word_7 (by decide) ?_
      refine wp_isub (pc := 8) dX12_word_8 ?_
      refine wp_i2l (pc := 9) dX12_word_9 ?_
      refine wp_cS (pc := 10) dX12_word_10 lk_12_133 rfl rfl rfl (c_X12_in (fun _ => aK_i ?_) (fun q => absurd c1' q))
      refine wp_if_eq (pc := 13) (tgt := 26) dX12_word_13 rfl (fun q => absurd q (by decide)) (fun _ => ?_)
      refine wp_iload_n (pc := 16) dX12_word_16 (by first | rfl | assumption | (repeat first | assumption | rfl | refine aG_n ?_ rfl rfl)) ?_
      refine wp_i2l (pc := 17) dX12_word_17 ?_
      refine wp_lconst (pc := 18) (v := 0) dX12_word_18 (by decide) ?_
      refine wp_lconst (pc := 19) (v := 1) dX12_word_19 (by decide) ?_
      refine wp_cS (pc := 20) dX12_word_20 lk_12_133 rfl rfl rfl (c_X12_in (fun q => absurd q (by rw [w_int]; exact c2)) (fun _ => aK_i ?_))
      refine wp_if_ne (pc := 23) (tgt := 28) dX12_word_23 rfl (fun q => absurd q (by decide)) (fun _ => ?_)
      refine wp_iconst (pc := 26) (v := -1) dX12_word_26 (by decide) ?_
      refine wp_ireturn (pc := 27) dX12_word_27 rfl (by first | rfl | decide | assumption) ?_
      exact k' _ hI
  · have c1' := fun z => c1 ((in_le (t := i) (by omega) t6).mp z)
    refine wp_aload_n (pc := 0) dX11_word_0 (by first | rfl | assumption | (repeat first | assumption | rfl | refine aG_n ?_ rfl rfl)) ?_
    refine wp_getR (pc := 1) dX11_word_1 fl_11_92 (by first | rfl | assumption | exact sh_house (by omega) | exact sh_wish (by omega) | exact sh_wor (by omega) | exact sh_bar (by omega) | exact sh_term (by omega) | exact sh_sheet (by omega) | exact sh_items (by omega) | exact sh_sums (by omega)) rfl ?_
    refine wp_iload_n (pc := 4) dX11_word_4 (by first | rfl | assumption | (repeat first | assumption | rfl | refine aG_n ?_ rfl rfl)) ?_
    refine wp_cV (pc := 5) dX11_word_5 lk_11_246 rfl (by decide) rfl (by first | rfl | assumption | exact sh_house (by omega) | exact sh_wish (by omega) | exact sh_wor (by omega) | exact sh_bar (by omega) | exact sh_term (by omega) | exact sh_sheet (by omega) | exact sh_items (by omega) | exact sh_sums (by omega)) rfl rfl (c_X7_hasWord hw t36 (fun q => absurd q c1) (fun _ => aK_i ?_))
    refine wp_if_eq (pc := 8) (tgt := 20) dX11_word_8 rfl (fun _ => ?_) (fun q => absurd q (by decide))
    refine wp_iconst (pc := 20) (v := -1) dX11_word_20 (by decide) ?_
    refine wp_ireturn (pc := 21) dX11_word_21 rfl (by first | rfl | decide | assumption) ?_
    refine k _ _ (fun Q' k' => ?_)
    refine wp_iload_n (pc := 0) dX12_word_0 (by first | rfl | assumption | (repeat first | assumption | rfl | refine aG_n ?_ rfl rfl)) ?_
    refine wp_i2l (pc := 1) dX12_word_1 ?_
    refine wp_lconst (pc := 2) (v := 0) dX12_word_2 (by decide) ?_
    refine wp_aload_n (pc := 3) dX12_word_3 (by first | rfl | assumption | (repeat first | assumption | rfl | refine aG_n ?_ rfl rfl)) ?_
    refine wp_getI (pc := 4) dX12_word_4 fl_12_244 (by first | rfl | assumption | exact sh_house (by omega) | exact sh_wish (by omega) | exact sh_wor (by omega) | exact sh_bar (by omega) | exact sh_term (by omega) | exact sh_sheet (by omega) | exact sh_items (by omega) | exact sh_sums (by omega)) rfl ?_
    refine wp_iconst (pc := 7) (v := 1) dX12_word_7 (by decide) ?_
    refine wp_isub (pc := 8) dX12_word_8 ?_
    refine wp_i2l (pc := 9) dX12_word_9 ?_
    refine wp_cS (pc := 10) dX12_word_10 lk_12_133 rfl rfl rfl (c_X12_in (fun q => absurd q c1') (fun _ => aK_i ?_))
    refine wp_if_eq (pc := 13) (tgt := 26) dX12_word_13 rfl (fun _ => ?_) (fun q => absurd q (by decide))
    refine wp_iconst (pc := 26) (v := -1) dX12_word_26 (by decide) ?_
    refine wp_ireturn (pc := 27) dX12_word_27 rfl (by first | rfl | decide | assumption) ?_
    exact k' _ hI
theorem J_offered (i wh : Int32) : Jnt mX11_offered mX12_offered [.int i, .int wh] := by
  intro X μ Q hI k
  have hT := hI.2.2.2.2.2.1
  obtain ⟨t1, t2, t3, t4, w, hw, t6, t7, t8⟩ := id hT
  have t36 : μ.1 73 3 = nI w := t3.trans t6
  have hk75 : ∀ q, q < 20 → μ.1 75 q = μ.1 100 q := fun q hq => (t4 q hq).1
  by_cases c1 : inT i w
  · have c1' := (in_le (by omega) t6).mpr c1
    by_cases c2 : inR wh 0 1
    · by_cases c3 : ofW μ.1 w i
      · obtain ⟨q, hq, rfl⟩ := inT_of c1
        obtain ⟨d, hd, rfl⟩ := inR_of (n := 1) c2
        have cq : (nI q).toNatClampNeg = q := nI_clamp (by omega)
        obtain rfl | rfl : d = 0 ∨ d = 1 := by omega
        · skip
          refine wp_aload_n (pc := 0) dX11_offered_0 (by first | rfl | assumption | (repeat first | assumption | rfl | refine aG_n ?_ rfl rfl)) ?_
          refine wp_getR (pc := 1) dX11_offered_1 fl_11_92 (by first | rfl | assumption | exact sh_house (by omega) | exact sh_wish (by omega) | exact sh_wor (by omega) | exact sh_bar (by omega) | exact sh_term (by omega) | exact sh_sheet (by omega) | exact sh_items (by omega) | exact sh_sums (by omega)) rfl ?_
          refine wp_iload_n (pc := 4) dX11_offered_4 (by first | rfl | assumption | (repeat first | assumption | rfl | refine aG_n ?_ rfl rfl)) ?_
          refine wp_cV (pc := 5) dX11_offered_5 lk_11_246 rfl (by decide) rfl (by first | rfl | assumption | exact sh_house (by omega) | exact sh_wish (by omega) | exact sh_wor (by omega) | exact sh_bar (by omega) | exact sh_term (by omega) | exact sh_sheet (by omega) | exact sh_items (by omega) | exact sh_sums (by omega)) rfl rfl (c_X7_hasWord hw t36 (fun _ => aK_i ?_) (fun q => absurd c1 q))
          refine wp_if_eq (pc := 8) (tgt := 20) dX11_offered_8 rfl (fun q => absurd q (by decide)) (fun _ => ?_)
          refine wp_iload_n (pc := 11) dX11_offered_11 (by first | rfl | assumption | (repeat first | assumption | rfl | refine aG_n ?_ rfl rfl)) ?_
          refine wp_iconst (pc := 12) (v := 0) dX11_offered_12 (by decide) ?_
          refine wp_iconst (pc := 13) (v := 1) dX11_offered_13 (by decide) ?_
          refine wp_cS (pc := 14) dX11_offered_14 lk_11_112 rfl rfl rfl (c_X11_isWithin (fun _ => aK_i ?_) (fun q => absurd c2 q))
          refine wp_if_ne (pc := 17) (tgt := 24) dX11_offered_17 rfl (fun _ => ?_) (fun q => absurd q (by decide))
          refine wp_aload_n (pc := 24) dX11_offered_24 (by first | rfl | assumption | (repeat first | assumption | rfl | refine aG_n ?_ rfl rfl)) ?_
          refine wp_getR (pc := 25) dX11_offered_25 fl_11_92 (by first | rfl | assumption | exact sh_house (by omega) | exact sh_wish (by omega) | exact sh_wor (by omega) | exact sh_bar (by omega) | exact sh_term (by omega) | exact sh_sheet (by omega) | exact sh_items (by omega) | exact sh_sums (by omega)) rfl ?_
          refine wp_iload_n (pc := 28) dX11_offered_28 (by first | rfl | assumption | (repeat first | assumption | rfl | refine aG_n ?_ rfl rfl)) ?_
          refine wp_cV (pc := 29) dX11_offered_29 lk_11_252 rfl (by decide) rfl (by first | rfl | assumption | exact sh_house (by omega) | exact sh_wish (by omega) | exact sh_wor (by omega) | exact sh_bar (by omega) | exact sh_term (by omega) | exact sh_sheet (by omega) | exact sh_items (by omega) | exact sh_sums (by omega)) rfl rfl (c_X7_isOffer hw t36 hk75 (fun _ => aK_i ?_) (fun q => absurd c3 q))
          refine wp_if_ne (pc := 32) (tgt := 39) dX11_offered_32 rfl (fun _ => ?_) (fun q => absurd q (by decide))
          refine wp_iload_n (pc := 39) dX11_offered_39 (by first | rfl | assumption | (repeat first | assumption | rfl | refine aG_n ?_ rfl rfl)) ?_
          refine wp_if_ne (pc := 40) (tgt := 54) dX11_offered_40 rfl (fun q => absurd rfl q) (fun _ => ?_)
          refine wp_aload_n (pc := 43) dX11_offered_43 (by first | rfl | assumption | (repeat first | assumption | rfl | refine aG_n ?_ rfl rfl)) ?_
          refine wp_getR (pc := 44) dX11_offered_44 fl_11_92 (by first | rfl | assumption | exact sh_house (by omega) | exact sh_wish (by omega) | exact sh_wor (by omega) | exact sh_bar (by omega) | exact sh_term (by omega) | exact sh_sheet (by omega) | exact sh_items (by omega) | exact sh_sums (by omega)) rfl ?_
          refine wp_iload_n (pc := 47) dX11_offered_47 (by first | rfl | assumption | (repeat first | assumption | rfl | refine aG_n ?_ rfl rfl)) ?_
          refine wp_cV (pc := 48) dX11_offered_48 lk_11_237 rfl (by decide) rfl (by first | rfl | assumption | exact sh_house (by omega) | exact sh_wish (by omega) | exact sh_wor (by omega) | exact sh_bar (by omega) | exact sh_term (by omega) | exact sh_sheet (by omega) | exact sh_items (by omega) | exact sh_sums (by omega)) rfl rfl (c_X7_setAt hw t36 hq (aK_i ?_))
          refine wp_goto (pc := 51) (tgt := 62) dX11_offered_51 rfl ?_
          refine wp_ireturn (pc := 62) dX11_offered_62 rfl (by first | rfl | decide | assumption) ?_
          refine k _ _ (fun Q' k' => ?_)
          refine wp_iload_n (pc := 0) dX12_offered_0 (by first | rfl | assumption | (repeat first | assumption | rfl | refine aG_n ?_ rfl rfl)) ?_
          refine wp_i2l (pc := 1) dX12_offered_1 ?_
          refine wp_lconst (pc := 2) (v := 0) dX12_offered_2 (by decide) ?_
          refine wp_aload_n (pc := 3) dX12_offered_3 (by first | rfl | assumption | (repeat first | assumption | rfl | refine aG_n ?_ rfl rfl)) ?_
          refine wp_getI (pc := 4) dX12_offered_4 fl_12_244 (by first | rfl | assumption | exact sh_house (by omega) | exact sh_wish (by omega) | exact sh_wor (by omega) | exact sh_bar (by omega) | exact sh_term (by omega) | exact sh_sheet (by omega) | exact sh_items (by omega) | exact sh_sums (by omega)) rfl ?_
          refine wp_iconst (pc := 7) (v := 1) dX12_offered_7 (by decide) ?_
          refine wp_isub (pc := 8) dX12_offered_8 ?_
          refine wp_i2l (pc := 9) dX12_offered_9 ?_
          refine wp_cS (pc := 10) dX12_offered_10 lk_12_133 rfl rfl rfl (c_X12_in (fun _ => aK_i ?_) (fun q => absurd c1' q))
          refine wp_if_eq (pc := 13) (tgt := 26) dX12_offered_13 rfl (fun q => absurd q (by decide)) (fun _ => ?_)
          refine wp_iload_n (pc := 16) dX12_offered_16 (by first | rfl | assumption | (repeat first | assumption | rfl | refine aG_n ?_ rfl rfl)) ?_
          refine wp_i2l (pc := 17) dX12_offered_17 ?_
          refine wp_lconst (pc := 18) (v := 0) dX12_offered_18 (by decide) ?_
          refine wp_lconst (pc := 19) (v := 1) dX12_offered_19 (by decide) ?_
          refine wp_cS (pc := 20) dX12_offered_20 lk_12_133 rfl rfl rfl (c_X12_in (fun _ => aK_i ?_) (fun q => absurd (by rw [w_int]; exact c2) q))
          refine wp_if_ne (pc := 23) (tgt := 30) dX12_offered_23 rfl (fun _ => ?_) (fun q => absurd q (by decide))
          refine wp_aload_n (pc := 30) dX12_offered_30 (by first | rfl | assumption | (repeat first | assumption | rfl | refine aG_n ?_ rfl rfl)) ?_
          refine wp_iload_n (pc := 31) dX12_offered_31 (by first | rfl | assumption | (repeat first | assumption | rfl | refine aG_n ?_ rfl rfl)) ?_
          refine wp_cV (pc := 32) dX12_offered_32 lk_12_266 rfl (by decide) rfl (by first | rfl | assumption | exact sh_house (by omega) | exact sh_wish (by omega) | exact sh_wor (by omega) | exact sh_bar (by omega) | exact sh_term (by omega) | exact sh_sheet (by omega) | exact sh_items (by omega) | exact sh_sums (by omega)) rfl rfl (c_X12_isOffer hw t6 (fun _ => aK_i ?_) (fun q => absurd c3 q))
          refine wp_if_ne (pc := 35) (tgt := 44) dX12_offered_35 rfl (fun _ => ?_) (fun q => absurd q (by decide))
          refine wp_iload_n (pc := 44) dX12_offered_44 (by first | rfl | assumption | (repeat first | assumption | rfl | refine aG_n ?_ rfl rfl)) ?_
          refine wp_if_ne (pc := 45) (tgt := 57) dX12_offered_45 rfl (fun q => absurd rfl q) (fun _ => ?_)
          refine wp_aload_n (pc := 48) dX12_offered_48 (by first | rfl | assumption | (repeat first | assumption | rfl | refine aG_n ?_ rfl rfl)) ?_
          refine wp_getR (pc := 49) dX12_offered_49 fl_12_53 (by first | rfl | assumption | exact sh_house (by omega) | exact sh_wish (by omega) | exact sh_wor (by omega) | exact sh_bar (by omega) | exact sh_term (by omega) | exact sh_sheet (by omega) | exact sh_items (by omega) | exact sh_sums (by omega)) rfl ?_
          refine wp_iload_n (pc := 52) dX12_offered_52 (by first | rfl | assumption | (repeat first | assumption | rfl | refine aG_n ?_ rfl rfl)) ?_
          refine wp_iald (pc := 53) dX12_offered_53 (by first | rfl | assumption | exact sh_house (by omega) | exact sh_wish (by omega) | exact sh_wor (by omega) | exact sh_bar (by omega) | exact sh_term (by omega) | exact sh_sheet (by omega) | exact sh_items (by omega) | exact sh_sums (by omega)) (vp_in_nI (by omega) (by decide)) ?_
          refine wp_goto (pc := 54) (tgt := 63) dX12_offered_54 rfl ?_
          refine wp_ireturn (pc := 63) dX12_offered_63 rfl (by first | rfl | decide | assumption) ?_
          refine qEq ?_ (k' _ hI); rw [cq]; exact (t4 q (by omega)).2.1.symm
        · skip
          refine wp_aload_n (pc := 0) dX11_offered_0 (by first | rfl | assumption | (repeat first | assumption | rfl | refine aG_n ?_ rfl rfl)) ?_
          refine wp_getR (pc := 1) dX11_offered_1 fl_11_92 (by first | rfl | assumption | exact sh_house (by omega) | exact sh_wish (by omega) | exact sh_wor (by omega) | exact sh_bar (by omega) | exact sh_term (by omega) | exact sh_sheet (by omega) | exact sh_items (by omega) | exact sh_sums (by omega)) rfl ?_
          refine wp_iload_n (pc := 4) dX11_offered_4 (by first | rfl | assumption | (repeat first | assumption | rfl | refine aG_n ?_ rfl rfl)) ?_
          refine wp_cV (pc := 5) dX11_offered_5 lk_11_246 rfl (by decide) rfl (by first | rfl | assumption | exact sh_house (by omega) | exact sh_wish (by omega) | exact sh_wor (by omega) | exact sh_bar (by omega) | exact sh_term (by omega) | exact sh_sheet (by omega) | exact sh_items (by omega) | exact sh_sums (by omega)) rfl rfl (c_X7_hasWord hw t36 (fun _ => aK_i ?_) (fun q => absurd c1 q))
          refine wp_if_eq (pc := 8) (tgt := 20) dX11_offered_8 rfl (fun q => absurd q (by decide)) (fun _ => ?_)
          refine wp_iload_n (pc := 11) dX11_offered_11 (by first | rfl | assumption | (repeat first | assumption | rfl | refine aG_n ?_ rfl rfl)) ?_
          refine wp_iconst (pc := 12) (v := 0) dX11_offered_12 (by decide) ?_
          refine wp_iconst (pc := 13) (v := 1) dX11_offered_13 (by decide) ?_
          refine wp_cS (pc := 14) dX11_offered_14 lk_11_112 rfl rfl rfl (c_X11_isWithin (fun _ => aK_i ?_) (fun q => absurd c2 q))
          refine wp_if_ne (pc := 17) (tgt := 24) dX11_offered_17 rfl (fun _ => ?_) (fun q => absurd q (by decide))
          refine wp_aload_n (pc := 24) dX11_offered_24 (by first | rfl | assumption | (repeat first | assumption | rfl | refine aG_n ?_ rfl rfl)) ?_
          refine wp_getR (pc := 25) dX11_offered_25 fl_11_92 (by first | rfl | assumption | exact sh_house (by omega) | exact sh_wish (by omega) | exact sh_wor (by omega) | exact sh_bar (by omega) | exact sh_term (by omega) | exact sh_sheet (by omega) | exact sh_items (by omega) | exact sh_sums (by omega)) rfl ?_
          refine wp_iload_n (pc := 28) dX11_offered_28 (by first | rfl | assumption | (repeat first | assumption | rfl | refine aG_n ?_ rfl rfl)) ?_
          refine wp_cV (pc := 29) dX11_offered_29 lk_11_252 rfl (by decide) rfl (by first | rfl | assumption | exact sh_house (by omega) | exact sh_wish (by omega) | exact sh_wor (by omega) | exact sh_bar (by omega) | exact sh_term (by omega) | exact sh_sheet (by omega) | exact sh_items (by omega) | exact sh_sums (by omega)) rfl rfl (c_X7_isOffer hw t36 hk75 (fun _ => aK_i ?_) (fun q => absurd c3 q))
          refine wp_if_ne (pc := 32) (tgt := 39) dX11_offered_32 rfl (fun _ => ?_) (fun q => absurd q (by decide))
          refine wp_iload_n (pc := 39) dX11_offered_39 (by first | rfl | assumption | (repeat first | assumption | rfl | refine aG_n ?_ rfl rfl)) ?_
          refine wp_if_ne (pc := 40) (tgt := 54) dX11_offered_40 rfl (fun _ => ?_) (fun q => absurd q (by decide))
          refine wp_aload_n (pc := 54) dX11_offered_54 (by first | rfl | assumption | (repeat first | assumption | rfl | refine aG_n ?_ rfl rfl)) ?_
          refine wp_getR (pc := 55) dX11_offered_55 fl_11_92 (by first | rfl | assumption | exact sh_house (by omega) | exact sh_wish (by omega) | exact sh_wor (by omega) | exact sh_bar (by omega) | exact sh_term (by omega) | exact sh_sheet (by omega) | exact sh_items (by omega) | exact sh_sums (by omega)) rfl ?_
          refine wp_iload_n (pc := 58) dX11_offered_58 (by first | rfl | assumption | (repeat first | assumption | rfl | refine aG_n ?_ rfl rfl)) ?_
          refine wp_cV (pc := 59) dX11_offered_59 lk_11_240 rfl (by decide) rfl (by first | rfl | assumption | exact sh_house (by omega) | exact sh_wish (by omega) | exact sh_wor (by omega) | exact sh_bar (by omega) | exact sh_term (by omega) | exact sh_sheet (by omega) | exact sh_items (by omega) | exact sh_sums (by omega)) rfl rfl (c_X7_priceAt hw t36 hq (aK_i ?_))
          refine wp_ireturn (pc := 62) dX11_offered_62 rfl (by first | rfl | decide | assumption) ?_
          refine k _ _ (fun Q' k' => ?_)
          refine wp_iload_n (pc := 0) dX12_offered_0 (by first | rfl | assumption | (repeat first | assumption | rfl | refine aG_n ?_ rfl rfl)) ?_
          refine wp_i2l (pc := 1) dX12_offered_1 ?_
          refine wp_lconst (pc := 2) (v := 0) dX12_offered_2 (by decide) ?_
          refine wp_aload_n (pc := 3) dX12_offered_3 (by first | rfl | assumption | (repeat first | assumption | rfl | refine aG_n ?_ rfl rfl)) ?_
          refine wp_getI (pc := 4) dX12_offered_4 fl_12_244 (by first | rfl | assumption | exact sh_house (by omega) | exact sh_wish (by omega) | exact sh_wor (by omega) | exact sh_bar (by omega) | exact sh_term (by omega) | exact sh_sheet (by omega) | exact sh_items (by omega) | exact sh_sums (by omega)) rfl ?_
          refine wp_iconst (pc := 7) (v := 1) dX12_offered_7 (by decide) ?_
          refine wp_isub (pc := 8) dX12_offered_8 ?_
          refine wp_i2l (pc := 9) dX12_offered_9 ?_
          refine wp_cS (pc := 10) dX12_offered_10 lk_12_133 rfl rfl rfl (c_X12_in (fun _ => aK_i ?_) (fun q => absurd c1' q))
          refine wp_if_eq (pc := 13) (tgt := 26) dX12_offered_13 rfl (fun q => absurd q (by decide)) (fun _ => ?_)
          refine wp_iload_n (pc := 16) dX12_offered_16 (by first | rfl | assumption | (repeat first | assumption | rfl | refine aG_n ?_ rfl rfl)) ?_
          refine wp_i2l (pc := 17) dX12_offered_17 ?_
          refine wp_lconst (pc := 18) (v := 0) dX12_offered_18 (by decide) ?_
          refine wp_lconst (pc := 19) (v := 1) dX12_offered_19 (by decide) ?_
          refine wp_cS (pc := 20) dX12_offered_20 lk_12_133 rfl rfl rfl (c_X12_in (fun _ => aK_i ?_) (fun q => absurd (by rw [w_int]; exact c2) q))
          refine wp_if_ne (pc := 23) (tgt := 30) dX12_offered_23 rfl (fun _ => ?_) (fun q => absurd q (by decide))
          refine wp_aload_n (pc := 30) dX12_offered_30 (by first | rfl | assumption | (repeat first | assumption | rfl | refine aG_n ?_ rfl rfl)) ?_
          refine wp_iload_n (pc := 31) dX12_offered_31 (by first | rfl | assumption | (repeat first | assumption | rfl | refine aG_n ?_ rfl rfl)) ?_
          refine wp_cV (pc := 32) dX12_offered_32 lk_12_266 rfl (by decide) rfl (by first | rfl | assumption | exact sh_house (by omega) | exact sh_wish (by omega) | exact sh_wor (by omega) | exact sh_bar (by omega) | exact sh_term (by omega) | exact sh_sheet (by omega) | exact sh_items (by omega) | exact sh_sums (by omega)) rfl rfl (c_X12_isOffer hw t6 (fun _ => aK_i ?_) (fun q => absurd c3 q))
          refine wp_if_ne (pc := 35) (tgt := 44) dX12_offered_35 rfl (fun _ => ?_) (fun q => absurd q (by decide))
          refine wp_iload_n (pc := 44) dX12_offered_44 (by first | rfl | assumption | (repeat first | assumption | rfl | refine aG_n ?_ rfl rfl)) ?_
          refine wp_if_ne (pc := 45) (tgt := 57) dX12_offered_45 rfl (fun _ => ?_) (fun q => absurd q (by decide))
          refine wp_aload_n (pc := 57) dX12_offered_57 (by first | rfl | assumption | (repeat first | assumption | rfl | refine aG_n ?_ rfl rfl)) ?_
          refine wp_getR (pc := 58) dX12_offered_58 fl_12_56 (by first | rfl | assumption | exact sh_house (by omega) | exact sh_wish (by omega) | exact sh_wor (by omega) | exact sh_bar (by omega) | exact sh_term (by omega) | exact sh_sheet (by omega) | exact sh_items (by omega) | exact sh_sums (by omega)) rfl ?_
          refine wp_iload_n (pc := 61) dX12_offered_61 (by first | rfl | assumption | (repeat first | assumption | rfl | refine aG_n ?_ rfl rfl)) ?_
          refine wp_iald (pc := 62) dX12_offered_62 (by first | rfl | assumption | exact sh_house (by omega) | exact sh_wish (by omega) | exact sh_wor (by omega) | exact sh_bar (by omega) | exact sh_term (by omega) | exact sh_sheet (by omega) | exact sh_items (by omega) | exact sh_sums (by omega)) (vp_in_nI (by omega) (by decide)) ?_
          refine wp_ireturn (pc := 63) dX12_offered_63 rfl (by first | rfl | decide | assumption) ?_
          refine qEq ?_ (k' _ hI); rw [cq]; exact (t4 q (by omega)).2.2.symm
      · skip
        refine wp_aload_n (pc := 0) dX11_offered_0 (by first | rfl | assumption | (repeat first | assumption | rfl | refine aG_n ?_ rfl rfl)) ?_
        refine wp_getR (pc := 1) dX11_offered_1 fl_11_92 (by first | rfl | assumption | exact sh_house (by omega) | exact sh_wish (by omega) | exact sh_wor (by omega) | exact sh_bar (by omega) | exact sh_term (by omega) | exact sh_sheet (by omega) | exact sh_items (by omega) | exact sh_sums (by omega)) rfl ?_
        refine wp_iload_n (pc := 4) dX11_offered_4 (by first | rfl | assumption | (repeat first | assumption | rfl | refine aG_n ?_ rfl rfl)) ?_
        refine wp_cV (pc := 5) dX11_offered_5 lk_11_246 rfl (by decide) rfl (by first | rfl | assumption | exact sh_house (by omega) | exact sh_wish (by omega) | exact sh_wor (by omega) | exact sh_bar (by omega) | exact sh_term (by omega) | exact sh_sheet (by omega) | exact sh_items (by omega) | exact sh_sums (by omega)) rfl rfl (c_X7_hasWord hw t36 (fun _ => aK_i ?_) (fun q => absurd c1 q))
        refine wp_if_eq (pc := 8) (tgt := 20) dX11_offered_8 rfl (fun q => absurd q (by decide)) (fun _ => ?_)
        refine wp_iload_n (pc := 11) dX11_offered_11 (by first | rfl | assumption | (repeat first | assumption | rfl | refine aG_n ?_ rfl rfl)) ?_
        refine wp_iconst (pc := 12) (v := 0) dX11_offered_12 (by decide) ?_
        refine wp_iconst (pc := 13) (v := 1) dX11_offered_13 (by decide) ?_
        refine wp_cS (pc := 14) dX11_offered_14 lk_11_112 rfl rfl rfl (c_X11_isWithin (fun _ => aK_i ?_) (fun q => absurd c2 q))
        refine wp_if_ne (pc := 17) (tgt := 24) dX11_offered_17 rfl (fun _ => ?_) (fun q => absurd q (by decide))
        refine wp_aload_n (pc := 24) dX11_offered_24 (by first | rfl | assumption | (repeat first | assumption | rfl | refine aG_n ?_ rfl rfl)) ?_
        refine wp_getR (pc := 25) dX11_offered_25 fl_11_92 (by first | rfl | assumption | exact sh_house (by omega) | exact sh_wish (by omega) | exact sh_wor (by omega) | exact sh_bar (by omega) | exact sh_term (by omega) | exact sh_sheet (by omega) | exact sh_items (by omega) | exact sh_sums (by omega)) rfl ?_
        refine wp_iload_n (pc := 28) dX11_offered_28 (by first | rfl | assumption | (repeat first | assumption | rfl | refine aG_n ?_ rfl rfl)) ?_
        refine wp_cV (pc := 29) dX11_offered_29 lk_11_252 rfl (by decide) rfl (by first | rfl | assumption | exact sh_house (by omega) | exact sh_wish (by omega) | exact sh_wor (by omega) | exact sh_bar (by omega) | exact sh_term (by omega) | exact sh_sheet (by omega) | exact sh_items (by omega) | exact sh_sums (by omega)) rfl rfl (c_X7_isOffer hw t36 hk75 (fun q => absurd q c3) (fun _ => aK_i ?_))
        refine wp_if_ne (pc := 32) (tgt := 39) dX11_offered_32 rfl (fun q => absurd q (by decide)) (fun _ => ?_)
        refine wp_sipush (pc := 35) (v := -10012) dX11_offered_35 (by decide) ?_
        refine wp_ireturn (pc := 38) dX11_offered_38 rfl (by first | rfl | decide | assumption) ?_
        refine k _ _ (fun Q' k' => ?_)
        refine wp_iload_n (pc := 0) dX12_offered_0 (by first | rfl | assumption | (repeat first | assumption | rfl | refine aG_n ?_ rfl rfl)) ?_
        refine wp_i2l (pc := 1) dX12_offered_1 ?_
        refine wp_lconst (pc := 2) (v := 0) dX12_offered_2 (by decide) ?_
        refine wp_aload_n (pc := 3) dX12_offered_3 (by first | rfl | assumption | (repeat first | assumption | rfl | refine aG_n ?_ rfl rfl)) ?_
        refine wp_getI (pc := 4) dX12_offered_4 fl_12_244 (by first | rfl | assumption | exact sh_house (by omega) | exact sh_wish (by omega) | exact sh_wor (by omega) | exact sh_bar (by omega) | exact sh_term (by omega) | exact sh_sheet (by omega) | exact sh_items (by omega) | exact sh_sums (by omega)) rfl ?_
        refine wp_iconst (pc := 7) (v := 1) dX12_offered_7 (by decide) ?_
        refine wp_isub (pc := 8) dX12_offered_8 ?_
        refine wp_i2l (pc := 9) dX12_offered_9 ?_
        refine wp_cS (pc := 10) dX12_offered_10 lk_12_133 rfl rfl rfl (c_X12_in (fun _ => aK_i ?_) (fun q => absurd c1' q))
        refine wp_if_eq (pc := 13) (tgt := 26) dX12_offered_13 rfl (fun q => absurd q (by decide)) (fun _ => ?_)
        refine wp_iload_n (pc := 16) dX12_offered_16 (by first | rfl | assumption | (repeat first | assumption | rfl | refine aG_n ?_ rfl rfl)) ?_
        refine wp_i2l (pc := 17) dX12_offered_17 ?_
        refine wp_lconst (pc := 18) (v := 0) dX12_offered_18 (by decide) ?_
        refine wp_lconst (pc := 19) (v := 1) dX12_offered_19 (by decide) ?_
        refine wp_cS (pc := 20) dX12_offered_20 lk_12_133 rfl rfl rfl (c_X12_in (fun _ => aK_i ?_) (fun q => absurd (by rw [w_int]; exact c2) q))
        refine wp_if_ne (pc := 23) (tgt := 30) dX12_offered_23 rfl (fun _ => ?_) (fun q => absurd q (by decide))
        refine wp_aload_n (pc := 30) dX12_offered_30 (by first | rfl | assumption | (repeat first | assumption | rfl | refine aG_n ?_ rfl rfl)) ?_
        refine wp_iload_n (pc := 31) dX12_offered_31 (by first | rfl | assumption | (repeat first | assumption | rfl | refine aG_n ?_ rfl rfl)) ?_
        refine wp_cV (pc := 32) dX12_offered_32 lk_12_266 rfl (by decide) rfl (by first | rfl | assumption | exact sh_house (by omega) | exact sh_wish (by omega) | exact sh_wor (by omega) | exact sh_bar (by omega) | exact sh_term (by omega) | exact sh_sheet (by omega) | exact sh_items (by omega) | exact sh_sums (by omega)) rfl rfl (c_X12_isOffer hw t6 (fun q => absurd q c3) (fun _ => aK_i ?_))
        refine wp_if_ne (pc := 35) (tgt := 44) dX12_offered_35 rfl (fun q => absurd q (by decide)) (fun _ => ?_)
        refine wp_sipush (pc := 38) (v := -10012) dX12_offered_38 (by decide) ?_
        refine wp_goto (pc := 41) (tgt := 63) dX12_offered_41 rfl ?_
        refine wp_ireturn (pc := 63) dX12_offered_63 rfl (by first | rfl | decide | assumption) ?_
        exact k' _ hI
    · skip
      refine wp_aload_n (pc := 0) dX11_offered_0 (by first | rfl | assumption | (repeat first | assumption | rfl | refine aG_n ?_ rfl rfl)) ?_
      refine wp_getR (pc := 1) dX11_offered_1 fl_11_92 (by first | rfl | assumption | exact sh_house (by omega) | exact sh_wish (by omega) | exact sh_wor (by omega) | exact sh_bar (by omega) | exact sh_term (by omega) | exact sh_sheet (by omega) | exact sh_items (by omega) | exact sh_sums (by omega)) rfl ?_
      refine wp_iload_n (pc := 4) dX11_offered_4 (by first | rfl | assumption | (repeat first | assumption | rfl | refine aG_n ?_ rfl rfl)) ?_
      refine wp_cV (pc := 5) dX11_offered_5 lk_11_246 rfl (by decide) rfl (by first | rfl | assumption | exact sh_house (by omega) | exact sh_wish (by omega) | exact sh_wor (by omega) | exact sh_bar (by omega) | exact sh_term (by omega) | exact sh_sheet (by omega) | exact sh_items (by omega) | exact sh_sums (by omega)) rfl rfl (c_X7_hasWord hw t36 (fun _ => aK_i ?_) (fun q => absurd c1 q))
      refine wp_if_eq (pc := 8) (tgt := 20) dX11_offered_8 rfl (fun q => absurd q (by decide)) (fun _ => ?_)
      refine wp_iload_n (pc := 11) dX11_offered_11 (by first | rfl | assumption | (repeat first | assumption | rfl | refine aG_n ?_ rfl rfl)) ?_
      refine wp_iconst (pc := 12) (v := 0) dX11_offered_12 (by decide) ?_
      refine wp_iconst (pc := 13) (v := 1) dX11_offered_13 (by decide) ?_
      refine wp_cS (pc := 14) dX11_offered_14 lk_11_112 rfl rfl rfl (c_X11_isWithin (fun q => absurd q c2) (fun _ => aK_i ?_))
      refine wp_if_ne (pc := 17) (tgt := 24) dX11_offered_17 rfl (fun q => absurd q (by decide)) (fun _ => ?_)
      refine wp_sipush (pc := 20) (v := -10001) dX11_offered_20 (by decide) ?_
      refine wp_ireturn (pc := 23) dX11_offered_23 rfl (by first | rfl | decide | assumption) ?_
      refine k _ _ (fun Q' k' => ?_)
      refine wp_iload_n (pc := 0) dX12_offered_0 (by first | rfl | assumption | (repeat first | assumption | rfl | refine aG_n ?_ rfl rfl)) ?_
      refine wp_i2l (pc := 1) dX12_offered_1 ?_
      refine wp_lconst (pc := 2) (v := 0) dX12_offered_2 (by decide) ?_
      refine wp_aload_n (pc := 3) dX12_offered_3 (by first | rfl | assumption | (repeat first | assumption | rfl | refine aG_n ?_ rfl rfl)) ?_
      refine wp_getI (pc := 4) dX12_offered_4 fl_12_244 (by first | rfl | assumption | exact sh_house (by omega) | exact sh_wish (by omega) | exact sh_wor (by omega) | exact sh_bar (by omega) | exact sh_term (by omega) | exact sh_sheet (by omega) | exact sh_items (by omega) | exact sh_sums (by omega)) rfl ?_
      refine wp_iconst (pc := 7) (v := 1) dX12_offered_7 (by decide) ?_
      refine wp_isub (pc := 8) dX12_offered_8 ?_
      refine wp_i2l (pc := 9) dX12_offered_9 ?_
      refine wp_cS (pc := 10) dX12_offered_10 lk_12_133 rfl rfl rfl (c_X12_in (fun _ => aK_i ?_) (fun q => absurd c1' q))
      refine wp_if_eq (pc := 13) (tgt := 26) dX12_offered_13 rfl (fun q => absurd q (by decide)) (fun _ => ?_)
      refine wp_iload_n (pc := 16) dX12_offered_16 (by first | rfl | assumption | (repeat first | assumption | rfl | refine aG_n ?_ rfl rfl)) ?_
      refine wp_i2l (pc := 17) dX12_offered_17 ?_
      refine wp_lconst (pc := 18) (v := 0) dX12_offered_18 (by decide) ?_
      refine wp_lconst (pc := 19) (v := 1) dX12_offered_19 (by decide) ?_
      refine wp_cS (pc := 20) dX12_offered_20 lk_12_133 rfl rfl rfl (c_X12_in (fun q => absurd q (by rw [w_int]; exact c2)) (fun _ => aK_i ?_))
      refine wp_if_ne (pc := 23) (tgt := 30) dX12_offered_23 rfl (fun q => absurd q (by decide)) (fun _ => ?_)
      refine wp_sipush (pc := 26) (v := -10001) dX12_offered_26 (by decide) ?_
      refine wp_ireturn (pc := 29) dX12_offered_29 rfl (by first | rfl | decide | assumption) ?_
      exact k' _ hI
  · have c1' := fun z => c1 ((in_le (t := i) (by omega) t6).mp z)
    refine wp_aload_n (pc := 0) dX11_offered_0 (by first | rfl | assumption | (repeat first | assumption | rfl | refine aG_n ?_ rfl rfl)) ?_
    refine wp_getR (pc := 1) dX11_offered_1 fl_11_92 (by first | rfl | assumption | exact sh_house (by omega) | exact sh_wish (by omega) | exact sh_wor (by omega) | exact sh_bar (by omega) | exact sh_term (by omega) | exact sh_sheet (by omega) | exact sh_items (by omega) | exact sh_sums (by omega)) rfl ?_
    refine wp_iload_n (pc := 4) dX11_offered_4 (by first | rfl | assumption | (repeat first | assumption | rfl | refine aG_n ?_ rfl rfl)) ?_
    refine wp_cV (pc := 5) dX11_offered_5 lk_11_246 rfl (by decide) rfl (by first | rfl | assumption | exact sh_house (by omega) | exact sh_wish (by omega) | exact sh_wor (by omega) | exact sh_bar (by omega) | exact sh_term (by omega) | exact sh_sheet (by omega) | exact sh_items (by omega) | exact sh_sums (by omega)) rfl rfl (c_X7_hasWord hw t36 (fun q => absurd q c1) (fun _ => aK_i ?_))
    refine wp_if_eq (pc := 8) (tgt := 20) dX11_offered_8 rfl (fun _ => ?_) (fun q => absurd q (by decide))
    refine wp_sipush (pc := 20) (v := -10001) dX11_offered_20 (by decide) ?_
    refine wp_ireturn (pc := 23) dX11_offered_23 rfl (by first | rfl | decide | assumption) ?_
    refine k _ _ (fun Q' k' => ?_)
    refine wp_iload_n (pc := 0) dX12_offered_0 (by first | rfl | assumption | (repeat first | assumption | rfl | refine aG_n ?_ rfl rfl)) ?_
    refine wp_i2l (pc := 1) dX12_offered_1 ?_
    refine wp_lconst (pc := 2) (v := 0) dX12_offered_2 (by decide) ?_
    refine wp_aload_n (pc := 3) dX12_offered_3 (by first | rfl | assumption | (repeat first | assumption | rfl | refine aG_n ?_ rfl rfl)) ?_
    refine wp_getI (pc := 4) dX12_offered_4 fl_12_244 (by first | rfl | assumption | exact sh_house (by omega) | exact sh_wish (by omega) | exact sh_wor (by omega) | exact sh_bar (by omega) | exact sh_term (by omega) | exact sh_sheet (by omega) | exact sh_items (by omega) | exact sh_sums (by omega)) rfl ?_
    refine wp_iconst (pc := 7) (v := 1) dX12_offered_7 (by decide) ?_
    refine wp_isub (pc := 8) dX12_offered_8 ?_
    refine wp_i2l (pc := 9) dX12_offered_9 ?_
    refine wp_cS (pc := 10) dX12_offered_10 lk_12_133 rfl rfl rfl (c_X12_in (fun q => absurd q c1') (fun _ => aK_i ?_))
    refine wp_if_eq (pc := 13) (tgt := 26) dX12_offered_13 rfl (fun _ => ?_) (fun q => absurd q (by decide))
    refine wp_sipush (pc := 26) (v := -10001) dX12_offered_26 (by decide) ?_
    refine wp_ireturn (pc := 29) dX12_offered_29 rfl (by first | rfl | decide | assumption) ?_
    exact k' _ hI
theorem J_talks (wh : Int32) : Jnt mX11_talks mX12_talks [.int wh] := by
  intro X μ Q hI k
  have hT := hI.2.2.2.2.2.1
  obtain ⟨t1, t2, t3, t4, w, hw, t6, t7, t8⟩ := id hT
  have t36 : μ.1 73 3 = nI w := t3.trans t6
  have hk75 : ∀ q, q < 20 → μ.1 75 q = μ.1 100 q := fun q hq => (t4 q hq).1
  by_cases c1 : inR wh 0 2
  · obtain ⟨d, hd, rfl⟩ := inR_of (n := 2) c1
    have h3 : d = 0 ∨ d = 1 ∨ d = 2 := by omega
    rcases h3 with rfl | rfl | rfl
    · skip
      refine wp_iload_n (pc := 0) dX11_talks_0 (by first | rfl | assumption | (repeat first | assumption | rfl | refine aG_n ?_ rfl rfl)) ?_
      refine wp_swI (pc := 1) (j := 0) (off := 27) (tgt := 28) dX11_talks_1 (by decide) (by decide) rfl rfl ?_
      refine wp_aload_n (pc := 28) dX11_talks_28 (by first | rfl | assumption | (repeat first | assumption | rfl | refine aG_n ?_ rfl rfl)) ?_
      refine wp_getR (pc := 29) dX11_talks_29 fl_11_92 (by first | rfl | assumption | exact sh_house (by omega) | exact sh_wish (by omega) | exact sh_wor (by omega) | exact sh_bar (by omega) | exact sh_term (by omega) | exact sh_sheet (by omega) | exact sh_items (by omega) | exact sh_sums (by omega)) rfl ?_
      refine wp_getI (pc := 32) dX11_talks_32 fl_11_206 (by first | rfl | assumption | exact sh_house (by omega) | exact sh_wish (by omega) | exact sh_wor (by omega) | exact sh_bar (by omega) | exact sh_term (by omega) | exact sh_sheet (by omega) | exact sh_items (by omega) | exact sh_sums (by omega)) rfl ?_
      refine wp_ireturn (pc := 35) dX11_talks_35 rfl (by first | rfl | decide | assumption) ?_
      refine k _ _ (fun Q' k' => ?_)
      refine wp_iload_n (pc := 0) dX12_talks_0 (by first | rfl | assumption | (repeat first | assumption | rfl | refine aG_n ?_ rfl rfl)) ?_
      refine wp_i2l (pc := 1) dX12_talks_1 ?_
      refine wp_lconst (pc := 2) (v := 0) dX12_talks_2 (by decide) ?_
      refine wp_ldc2 (pc := 3) dX12_talks_3 cl_12_212 ?_
      refine wp_cS (pc := 6) dX12_talks_6 lk_12_133 rfl rfl rfl (c_X12_in (fun _ => aK_i ?_) (fun q => absurd (by rw [w_int]; exact c1) q))
      refine wp_if_ne (pc := 9) (tgt := 14) dX12_talks_9 rfl (fun _ => ?_) (fun q => absurd q (by decide))
      refine wp_iload_n (pc := 14) dX12_talks_14 (by first | rfl | assumption | (repeat first | assumption | rfl | refine aG_n ?_ rfl rfl)) ?_
      refine wp_if_ne (pc := 15) (tgt := 25) dX12_talks_15 rfl (fun q => absurd rfl q) (fun _ => ?_)
      refine wp_aload_n (pc := 18) dX12_talks_18 (by first | rfl | assumption | (repeat first | assumption | rfl | refine aG_n ?_ rfl rfl)) ?_
      refine wp_getI (pc := 19) dX12_talks_19 fl_12_137 (by first | rfl | assumption | exact sh_house (by omega) | exact sh_wish (by omega) | exact sh_wor (by omega) | exact sh_bar (by omega) | exact sh_term (by omega) | exact sh_sheet (by omega) | exact sh_items (by omega) | exact sh_sums (by omega)) rfl ?_
      refine wp_goto (pc := 22) (tgt := 68) dX12_talks_22 rfl ?_
      refine wp_ireturn (pc := 68) dX12_talks_68 rfl (by first | rfl | decide | assumption) ?_
      exact qEq t1.symm (k' _ hI)
    · by_cases c2 : μ.1 86 15 = 0
      · have := t7 c2
        subst this
        refine wp_iload_n (pc := 0) dX11_talks_0 (by first | rfl | assumption | (repeat first | assumption | rfl | refine aG_n ?_ rfl rfl)) ?_
        refine wp_swI (pc := 1) (j := 1) (off := 35) (tgt := 36) dX11_talks_1 (by decide) (by decide) rfl rfl ?_
        refine wp_aload_n (pc := 36) dX11_talks_36 (by first | rfl | assumption | (repeat first | assumption | rfl | refine aG_n ?_ rfl rfl)) ?_
        refine wp_getR (pc := 37) dX11_talks_37 fl_11_92 (by first | rfl | assumption | exact sh_house (by omega) | exact sh_wish (by omega) | exact sh_wor (by omega) | exact sh_bar (by omega) | exact sh_term (by omega) | exact sh_sheet (by omega) | exact sh_items (by omega) | exact sh_sums (by omega)) rfl ?_
        refine wp_getI (pc := 40) dX11_talks_40 fl_11_209 (by first | rfl | assumption | exact sh_house (by omega) | exact sh_wish (by omega) | exact sh_wor (by omega) | exact sh_bar (by omega) | exact sh_term (by omega) | exact sh_sheet (by omega) | exact sh_items (by omega) | exact sh_sums (by omega)) rfl ?_
        refine wp_ireturn (pc := 43) dX11_talks_43 rfl (by first | rfl | decide | assumption) ?_
        refine k _ _ (fun Q' k' => ?_)
        refine wp_iload_n (pc := 0) dX12_talks_0 (by first | rfl | assumption | (repeat first | assumption | rfl | refine aG_n ?_ rfl rfl)) ?_
        refine wp_i2l (pc := 1) dX12_talks_1 ?_
        refine wp_lconst (pc := 2) (v := 0) dX12_talks_2 (by decide) ?_
        refine wp_ldc2 (pc := 3) dX12_talks_3 cl_12_212 ?_
        refine wp_cS (pc := 6) dX12_talks_6 lk_12_133 rfl rfl rfl (c_X12_in (fun _ => aK_i ?_) (fun q => absurd (by rw [w_int]; exact c1) q))
        refine wp_if_ne (pc := 9) (tgt := 14) dX12_talks_9 rfl (fun _ => ?_) (fun q => absurd q (by decide))
        refine wp_iload_n (pc := 14) dX12_talks_14 (by first | rfl | assumption | (repeat first | assumption | rfl | refine aG_n ?_ rfl rfl)) ?_
        refine wp_if_ne (pc := 15) (tgt := 25) dX12_talks_15 rfl (fun _ => ?_) (fun q => absurd q (by decide))
        refine wp_iload_n (pc := 25) dX12_talks_25 (by first | rfl | assumption | (repeat first | assumption | rfl | refine aG_n ?_ rfl rfl)) ?_
        refine wp_iconst (pc := 26) (v := 1) dX12_talks_26 (by decide) ?_
        refine wp_icmp_ne (pc := 27) (tgt := 48) dX12_talks_27 rfl (fun q => absurd rfl q) (fun _ => ?_)
        refine wp_aload_n (pc := 30) dX12_talks_30 (by first | rfl | assumption | (repeat first | assumption | rfl | refine aG_n ?_ rfl rfl)) ?_
        refine wp_getI (pc := 31) dX12_talks_31 fl_12_137 (by first | rfl | assumption | exact sh_house (by omega) | exact sh_wish (by omega) | exact sh_wor (by omega) | exact sh_bar (by omega) | exact sh_term (by omega) | exact sh_sheet (by omega) | exact sh_items (by omega) | exact sh_sums (by omega)) rfl ?_
        refine wp_if_ne (pc := 34) (tgt := 41) dX12_talks_34 rfl (fun q => absurd c2 q) (fun _ => ?_)
        refine wp_iconst (pc := 37) (v := 0) dX12_talks_37 (by decide) ?_
        refine wp_goto (pc := 38) (tgt := 68) dX12_talks_38 rfl ?_
        refine wp_ireturn (pc := 68) dX12_talks_68 rfl (by first | rfl | decide | assumption) ?_
        exact qEq t36.symm (k' _ hI)
      · skip
        refine wp_iload_n (pc := 0) dX11_talks_0 (by first | rfl | assumption | (repeat first | assumption | rfl | refine aG_n ?_ rfl rfl)) ?_
        refine wp_swI (pc := 1) (j := 1) (off := 35) (tgt := 36) dX11_talks_1 (by decide) (by decide) rfl rfl ?_
        refine wp_aload_n (pc := 36) dX11_talks_36 (by first | rfl | assumption | (repeat first | assumption | rfl | refine aG_n ?_ rfl rfl)) ?_
        refine wp_getR (pc := 37) dX11_talks_37 fl_11_92 (by first | rfl | assumption | exact sh_house (by omega) | exact sh_wish (by omega) | exact sh_wor (by omega) | exact sh_bar (by omega) | exact sh_term (by omega) | exact sh_sheet (by omega) | exact sh_items (by omega) | exact sh_sums (by omega)) rfl ?_
        refine wp_getI (pc := 40) dX11_talks_40 fl_11_209 (by first | rfl | assumption | exact sh_house (by omega) | exact sh_wish (by omega) | exact sh_wor (by omega) | exact sh_bar (by omega) | exact sh_term (by omega) | exact sh_sheet (by omega) | exact sh_items (by omega) | exact sh_sums (by omega)) rfl ?_
        refine wp_ireturn (pc := 43) dX11_talks_43 rfl (by first | rfl | decide | assumption) ?_
        refine k _ _ (fun Q' k' => ?_)
        refine wp_iload_n (pc := 0) dX12_talks_0 (by first | rfl | assumption | (repeat first | assumption | rfl | refine aG_n ?_ rfl rfl)) ?_
        refine wp_i2l (pc := 1) dX12_talks_1 ?_
        refine wp_lconst (pc := 2) (v := 0) dX12_talks_2 (by decide) ?_
        refine wp_ldc2 (pc := 3) dX12_talks_3 cl_12_212 ?_
        refine wp_cS (pc := 6) dX12_talks_6 lk_12_133 rfl rfl rfl (c_X12_in (fun _ => aK_i ?_) (fun q => absurd (by rw [w_int]; exact c1) q))
        refine wp_if_ne (pc := 9) (tgt := 14) dX12_talks_9 rfl (fun _ => ?_) (fun q => absurd q (by decide))
        refine wp_iload_n (pc := 14) dX12_talks_14 (by first | rfl | assumption | (repeat first | assumption | rfl | refine aG_n ?_ rfl rfl)) ?_
        refine wp_if_ne (pc := 15) (tgt := 25) dX12_talks_15 rfl (fun _ => ?_) (fun q => absurd q (by decide))
        refine wp_iload_n (pc := 25) dX12_talks_25 (by first | rfl | assumption | (repeat first | assumption | rfl | refine aG_n ?_ rfl rfl)) ?_
        refine wp_iconst (pc := 26) (v := 1) dX12_talks_26 (by decide) ?_
        refine wp_icmp_ne (pc := 27) (tgt := 48) dX12_talks_27 rfl (fun q => absurd rfl q) (fun _ => ?_)
        refine wp_aload_n (pc := 30) dX12_talks_30 (by first | rfl | assumption | (repeat first | assumption | rfl | refine aG_n ?_ rfl rfl)) ?_
        refine wp_getI (pc := 31) dX12_talks_31 fl_12_137 (by first | rfl | assumption | exact sh_house (by omega) | exact sh_wish (by omega) | exact sh_wor (by omega) | exact sh_bar (by omega) | exact sh_term (by omega) | exact sh_sheet (by omega) | exact sh_items (by omega) | exact sh_sums (by omega)) rfl ?_
        refine wp_if_ne (pc := 34) (tgt := 41) dX12_talks_34 rfl (fun _ => ?_) (fun q => absurd q c2)
        refine wp_aload_n (pc := 41) dX12_talks_41 (by first | rfl | assumption | (repeat first | assumption | rfl | refine aG_n ?_ rfl rfl)) ?_
        refine wp_getI (pc := 42) dX12_talks_42 fl_12_244 (by first | rfl | assumption | exact sh_house (by omega) | exact sh_wish (by omega) | exact sh_wor (by omega) | exact sh_bar (by omega) | exact sh_term (by omega) | exact sh_sheet (by omega) | exact sh_items (by omega) | exact sh_sums (by omega)) rfl ?_
        refine wp_goto (pc := 45) (tgt := 68) dX12_talks_45 rfl ?_
        refine wp_ireturn (pc := 68) dX12_talks_68 rfl (by first | rfl | decide | assumption) ?_
        exact qEq t3.symm (k' _ hI)
    · by_cases ho : μ.1 86 15 = 1
      · skip
        have hc : μ.1 73 0 = 1 := t1.trans ho
        obtain ⟨a, b, mo, ⟨ha, hb, hab⟩, ⟨d21, d22, d23, d24⟩, ⟨d31, d32, d33, d34, d35⟩, d4, d5, d6, d7, d8, d9, d10⟩ := t8 (by rw [ho]; decide)
        have hlt := d35 ho
        refine wp_iload_n (pc := 0) dX11_talks_0 (by first | rfl | assumption | (repeat first | assumption | rfl | refine aG_n ?_ rfl rfl)) ?_
        refine wp_swI (pc := 1) (j := 2) (off := 43) (tgt := 44) dX11_talks_1 (by decide) (by decide) rfl rfl ?_
        refine wp_aload_n (pc := 44) dX11_talks_44 (by first | rfl | assumption | (repeat first | assumption | rfl | refine aG_n ?_ rfl rfl)) ?_
        refine wp_getR (pc := 45) dX11_talks_45 fl_11_92 (by first | rfl | assumption | exact sh_house (by omega) | exact sh_wish (by omega) | exact sh_wor (by omega) | exact sh_bar (by omega) | exact sh_term (by omega) | exact sh_sheet (by omega) | exact sh_items (by omega) | exact sh_sums (by omega)) rfl ?_
        refine wp_cV (pc := 48) dX11_talks_48 lk_11_104 rfl (by decide) rfl (by first | rfl | assumption | exact sh_house (by omega) | exact sh_wish (by omega) | exact sh_wor (by omega) | exact sh_bar (by omega) | exact sh_term (by omega) | exact sh_sheet (by omega) | exact sh_items (by omega) | exact sh_sums (by omega)) rfl rfl (c_X7_isOpen (fun _ => aK_i ?_) (fun q => absurd hc q))
        refine wp_if_eq (pc := 51) (tgt := 71) dX11_talks_51 rfl (fun q => absurd q (by decide)) (fun _ => ?_)
        refine wp_aload_n (pc := 54) dX11_talks_54 (by first | rfl | assumption | (repeat first | assumption | rfl | refine aG_n ?_ rfl rfl)) ?_
        refine wp_getR (pc := 55) dX11_talks_55 fl_11_92 (by first | rfl | assumption | exact sh_house (by omega) | exact sh_wish (by omega) | exact sh_wor (by omega) | exact sh_bar (by omega) | exact sh_term (by omega) | exact sh_sheet (by omega) | exact sh_items (by omega) | exact sh_sums (by omega)) rfl ?_
        refine wp_aload_n (pc := 58) dX11_talks_58 (by first | rfl | assumption | (repeat first | assumption | rfl | refine aG_n ?_ rfl rfl)) ?_
        refine wp_getR (pc := 59) dX11_talks_59 fl_11_92 (by first | rfl | assumption | exact sh_house (by omega) | exact sh_wish (by omega) | exact sh_wor (by omega) | exact sh_bar (by omega) | exact sh_term (by omega) | exact sh_sheet (by omega) | exact sh_items (by omega) | exact sh_sums (by omega)) rfl ?_
        refine wp_getI (pc := 62) dX11_talks_62 fl_11_209 (by first | rfl | assumption | exact sh_house (by omega) | exact sh_wish (by omega) | exact sh_wor (by omega) | exact sh_bar (by omega) | exact sh_term (by omega) | exact sh_sheet (by omega) | exact sh_items (by omega) | exact sh_sums (by omega)) rfl ?_
        refine wp_cV (pc := 65) dX11_talks_65 lk_11_212 rfl (by decide) rfl (by first | rfl | assumption | exact sh_house (by omega) | exact sh_wish (by omega) | exact sh_wor (by omega) | exact sh_bar (by omega) | exact sh_term (by omega) | exact sh_sheet (by omega) | exact sh_items (by omega) | exact sh_sums (by omega)) rfl rfl ?_
        rw [t36]
        refine c_X7_partyOf (show w < 2 ^ 31 by omega) (aK_i ?_)
        refine wp_goto (pc := 68) (tgt := 73) dX11_talks_68 rfl ?_
        refine wp_ireturn (pc := 73) dX11_talks_73 rfl (by first | rfl | decide | assumption) ?_
        refine k _ _ (fun Q' k' => ?_)
        refine wp_iload_n (pc := 0) dX12_talks_0 (by first | rfl | assumption | (repeat first | assumption | rfl | refine aG_n ?_ rfl rfl)) ?_
        refine wp_i2l (pc := 1) dX12_talks_1 ?_
        refine wp_lconst (pc := 2) (v := 0) dX12_talks_2 (by decide) ?_
        refine wp_ldc2 (pc := 3) dX12_talks_3 cl_12_212 ?_
        refine wp_cS (pc := 6) dX12_talks_6 lk_12_133 rfl rfl rfl (c_X12_in (fun _ => aK_i ?_) (fun q => absurd (by rw [w_int]; exact c1) q))
        refine wp_if_ne (pc := 9) (tgt := 14) dX12_talks_9 rfl (fun _ => ?_) (fun q => absurd q (by decide))
        refine wp_iload_n (pc := 14) dX12_talks_14 (by first | rfl | assumption | (repeat first | assumption | rfl | refine aG_n ?_ rfl rfl)) ?_
        refine wp_if_ne (pc := 15) (tgt := 25) dX12_talks_15 rfl (fun _ => ?_) (fun q => absurd q (by decide))
        refine wp_iload_n (pc := 25) dX12_talks_25 (by first | rfl | assumption | (repeat first | assumption | rfl | refine aG_n ?_ rfl rfl)) ?_
        refine wp_iconst (pc := 26) (v := 1) dX12_talks_26 (by decide) ?_
        refine wp_icmp_ne (pc := 27) (tgt := 48) dX12_talks_27 rfl (fun _ => ?_) (fun q => absurd q (by decide))
        refine wp_aload_n (pc := 48) dX12_talks_48 (by first | rfl | assumption | (repeat first | assumption | rfl | refine aG_n ?_ rfl rfl)) ?_
        refine wp_cV (pc := 49) dX12_talks_49 lk_12_147 rfl (by decide) rfl (by first | rfl | assumption | exact sh_house (by omega) | exact sh_wish (by omega) | exact sh_wor (by omega) | exact sh_bar (by omega) | exact sh_term (by omega) | exact sh_sheet (by omega) | exact sh_items (by omega) | exact sh_sums (by omega)) rfl rfl (c_X12_isTalking (fun _ => aK_i ?_) (fun q => absurd ho q))
        refine wp_if_eq (pc := 52) (tgt := 66) dX12_talks_52 rfl (fun q => absurd q (by decide)) (fun _ => ?_)
        refine wp_aload_n (pc := 55) dX12_talks_55 (by first | rfl | assumption | (repeat first | assumption | rfl | refine aG_n ?_ rfl rfl)) ?_
        refine wp_aload_n (pc := 56) dX12_talks_56 (by first | rfl | assumption | (repeat first | assumption | rfl | refine aG_n ?_ rfl rfl)) ?_
        refine wp_getI (pc := 57) dX12_talks_57 fl_12_244 (by first | rfl | assumption | exact sh_house (by omega) | exact sh_wish (by omega) | exact sh_wor (by omega) | exact sh_bar (by omega) | exact sh_term (by omega) | exact sh_sheet (by omega) | exact sh_items (by omega) | exact sh_sums (by omega)) rfl ?_
        refine wp_cV (pc := 60) dX12_talks_60 lk_12_259 rfl (by decide) rfl (by first | rfl | assumption | exact sh_house (by omega) | exact sh_wish (by omega) | exact sh_wor (by omega) | exact sh_bar (by omega) | exact sh_term (by omega) | exact sh_sheet (by omega) | exact sh_items (by omega) | exact sh_sums (by omega)) rfl rfl ?_
        rw [t6]
        refine c_X12_whose (show w < 2 ^ 31 by omega) (aK_i ?_)
        refine wp_goto (pc := 63) (tgt := 68) dX12_talks_63 rfl ?_
        refine wp_ireturn (pc := 68) dX12_talks_68 rfl (by first | rfl | decide | assumption) ?_
        refine qEq ?_ (k' _ hI); rw [d21, d22, d23, d24]
      · skip
        have hc : ¬ μ.1 73 0 = 1 := fun z => ho (t1.symm.trans z)
        refine wp_iload_n (pc := 0) dX11_talks_0 (by first | rfl | assumption | (repeat first | assumption | rfl | refine aG_n ?_ rfl rfl)) ?_
        refine wp_swI (pc := 1) (j := 2) (off := 43) (tgt := 44) dX11_talks_1 (by decide) (by decide) rfl rfl ?_
        refine wp_aload_n (pc := 44) dX11_talks_44 (by first | rfl | assumption | (repeat first | assumption | rfl | refine aG_n ?_ rfl rfl)) ?_
        refine wp_getR (pc := 45) dX11_talks_45 fl_11_92 (by first | rfl | assumption | exact sh_house (by omega) | exact sh_wish (by omega) | exact sh_wor (by omega) | exact sh_bar (by omega) | exact sh_term (by omega) | exact sh_sheet (by omega) | exact sh_items (by omega) | exact sh_sums (by omega)) rfl ?_
        refine wp_cV (pc := 48) dX11_talks_48 lk_11_104 rfl (by decide) rfl (by first | rfl | assumption | exact sh_house (by omega) | exact sh_wish (by omega) | exact sh_wor (by omega) | exact sh_bar (by omega) | exact sh_term (by omega) | exact sh_sheet (by omega) | exact sh_items (by omega) | exact sh_sums (by omega)) rfl rfl (c_X7_isOpen (fun q => absurd q hc) (fun _ => aK_i ?_))
        refine wp_if_eq (pc := 51) (tgt := 71) dX11_talks_51 rfl (fun _ => ?_) (fun q => absurd q (by decide))
        refine wp_bipush (pc := 71) (v := -4) dX11_talks_71 (by decide) ?_
        refine wp_ireturn (pc := 73) dX11_talks_73 rfl (by first | rfl | decide | assumption) ?_
        refine k _ _ (fun Q' k' => ?_)
        refine wp_iload_n (pc := 0) dX12_talks_0 (by first | rfl | assumption | (repeat first | assumption | rfl | refine aG_n ?_ rfl rfl)) ?_
        refine wp_i2l (pc := 1) dX12_talks_1 ?_
        refine wp_lconst (pc := 2) (v := 0) dX12_talks_2 (by decide) ?_
        refine wp_ldc2 (pc := 3) dX12_talks_3 cl_12_212 ?_
        refine wp_cS (pc := 6) dX12_talks_6 lk_12_133 rfl rfl rfl (c_X12_in (fun _ => aK_i ?_) (fun q => absurd (by rw [w_int]; exact c1) q))
        refine wp_if_ne (pc := 9) (tgt := 14) dX12_talks_9 rfl (fun _ => ?_) (fun q => absurd q (by decide))
        refine wp_iload_n (pc := 14) dX12_talks_14 (by first | rfl | assumption | (repeat first | assumption | rfl | refine aG_n ?_ rfl rfl)) ?_
        refine wp_if_ne (pc := 15) (tgt := 25) dX12_talks_15 rfl (fun _ => ?_) (fun q => absurd q (by decide))
        refine wp_iload_n (pc := 25) dX12_talks_25 (by first | rfl | assumption | (repeat first | assumption | rfl | refine aG_n ?_ rfl rfl)) ?_
        refine wp_iconst (pc := 26) (v := 1) dX12_talks_26 (by decide) ?_
        refine wp_icmp_ne (pc := 27) (tgt := 48) dX12_talks_27 rfl (fun _ => ?_) (fun q => absurd q (by decide))
        refine wp_aload_n (pc := 48) dX12_talks_48 (by first | rfl | assumption | (repeat first | assumption | rfl | refine aG_n ?_ rfl rfl)) ?_
        refine wp_cV (pc := 49) dX12_talks_49 lk_12_147 rfl (by decide) rfl (by first | rfl | assumption | exact sh_house (by omega) | exact sh_wish (by omega) | exact sh_wor (by omega) | exact sh_bar (by omega) | exact sh_term (by omega) | exact sh_sheet (by omega) | exact sh_items (by omega) | exact sh_sums (by omega)) rfl rfl (c_X12_isTalking (fun q => absurd q ho) (fun _ => aK_i ?_))
        refine wp_if_eq (pc := 52) (tgt := 66) dX12_talks_52 rfl (fun _ => ?_) (fun q => absurd q (by decide))
        refine wp_bipush (pc := 66) (v := -4) dX12_talks_66 (by decide) ?_
        refine wp_ireturn (pc := 68) dX12_talks_68 rfl (by first | rfl | decide | assumption) ?_
        exact k' _ hI
  · skip
    refine wp_iload_n (pc := 0) dX11_talks_0 (by first | rfl | assumption | (repeat first | assumption | rfl | refine aG_n ?_ rfl rfl)) ?_
    refine wp_swD (pc := 1) (tgt := 74) dX11_talks_1 (by unfold inR at c1; omega) rfl ?_
    refine wp_iconst (pc := 74) (v := -1) dX11_talks_74 (by decide) ?_
    refine wp_ireturn (pc := 75) dX11_talks_75 rfl (by first | rfl | decide | assumption) ?_
    refine k _ _ (fun Q' k' => ?_)
    refine wp_iload_n (pc := 0) dX12_talks_0 (by first | rfl | assumption | (repeat first | assumption | rfl | refine aG_n ?_ rfl rfl)) ?_
    refine wp_i2l (pc := 1) dX12_talks_1 ?_
    refine wp_lconst (pc := 2) (v := 0) dX12_talks_2 (by decide) ?_
    refine wp_ldc2 (pc := 3) dX12_talks_3 cl_12_212 ?_
    refine wp_cS (pc := 6) dX12_talks_6 lk_12_133 rfl rfl rfl (c_X12_in (fun q => absurd q (by rw [w_int]; exact c1)) (fun _ => aK_i ?_))
    refine wp_if_ne (pc := 9) (tgt := 14) dX12_talks_9 rfl (fun q => absurd q (by decide)) (fun _ => ?_)
    refine wp_iconst (pc := 12) (v := -1) dX12_talks_12 (by decide) ?_
    refine wp_ireturn (pc := 13) dX12_talks_13 rfl (by first | rfl | decide | assumption) ?_
    exact k' _ hI
theorem J_talk (a b n : Int32) : Jnt mX11_talk mX12_talk [.int a, .int b, .int n] := by
  intro X μ Q hI k
  have hT := hI.2.2.2.2.2.1
  obtain ⟨t1, t2, t3, t4, w, hw, t6, t7, t8⟩ := id hT
  have t36 : μ.1 73 3 = nI w := t3.trans t6
  have hk75 : ∀ q, q < 20 → μ.1 75 q = μ.1 100 q := fun q hq => (t4 q hq).1
  by_cases c1 : inR a 0 3 ∧ inR b 0 3 ∧ a ≠ b
  · by_cases c2 : inR n 1 20
    · by_cases ho : μ.1 86 15 = 1
      · have hc : μ.1 73 0 = 1 := t1.trans ho
        refine wp_iload_n (pc := 0) dX11_talk_0 (by first | rfl | assumption | (repeat first | assumption | rfl | refine aG_n ?_ rfl rfl)) ?_
        refine wp_iload_n (pc := 1) dX11_talk_1 (by first | rfl | assumption | (repeat first | assumption | rfl | refine aG_n ?_ rfl rfl)) ?_
        refine wp_cS (pc := 2) dX11_talk_2 lk_11_183 rfl rfl rfl (c_X11_isTwoHouses (fun _ => aK_i ?_) (fun q => absurd c1 q))
        refine wp_if_eq (pc := 5) (tgt := 18) dX11_talk_5 rfl (fun q => absurd q (by decide)) (fun _ => ?_)
        refine wp_iload_n (pc := 8) dX11_talk_8 (by first | rfl | assumption | (repeat first | assumption | rfl | refine aG_n ?_ rfl rfl)) ?_
        refine wp_iconst (pc := 9) (v := 1) dX11_talk_9 (by decide) ?_
        refine wp_bipush (pc := 10) (v := 20) dX11_talk_10 (by decide) ?_
        refine wp_cS (pc := 12) dX11_talk_12 lk_11_112 rfl rfl rfl (c_X11_isWithin (fun _ => aK_i ?_) (fun q => absurd c2 q))
        refine wp_if_ne (pc := 15) (tgt := 20) dX11_talk_15 rfl (fun _ => ?_) (fun q => absurd q (by decide))
        refine wp_aload_n (pc := 20) dX11_talk_20 (by first | rfl | assumption | (repeat first | assumption | rfl | refine aG_n ?_ rfl rfl)) ?_
        refine wp_getR (pc := 21) dX11_talk_21 fl_11_92 (by first | rfl | assumption | exact sh_house (by omega) | exact sh_wish (by omega) | exact sh_wor (by omega) | exact sh_bar (by omega) | exact sh_term (by omega) | exact sh_sheet (by omega) | exact sh_items (by omega) | exact sh_sums (by omega)) rfl ?_
        refine wp_cV (pc := 24) dX11_talk_24 lk_11_104 rfl (by decide) rfl (by first | rfl | assumption | exact sh_house (by omega) | exact sh_wish (by omega) | exact sh_wor (by omega) | exact sh_bar (by omega) | exact sh_term (by omega) | exact sh_sheet (by omega) | exact sh_items (by omega) | exact sh_sums (by omega)) rfl rfl (c_X7_isOpen (fun _ => aK_i ?_) (fun q => absurd hc q))
        refine wp_if_eq (pc := 27) (tgt := 33) dX11_talk_27 rfl (fun q => absurd q (by decide)) (fun _ => ?_)
        refine wp_bipush (pc := 30) (v := -2) dX11_talk_30 (by decide) ?_
        refine wp_ireturn (pc := 32) dX11_talk_32 rfl (by first | rfl | decide | assumption) ?_
        refine k _ _ (fun Q' k' => ?_)
        refine wp_iload_n (pc := 0) dX12_talk_0 (by first | rfl | assumption | (repeat first | assumption | rfl | refine aG_n ?_ rfl rfl)) ?_
        refine wp_cS (pc := 1) dX12_talk_1 lk_12_143 rfl rfl rfl (c_X12_isHouse (fun _ => aK_i ?_) (fun q => absurd c1.1 q))
        refine wp_if_eq (pc := 4) (tgt := 31) dX12_talk_4 rfl (fun q => absurd q (by decide)) (fun _ => ?_)
        refine wp_iload_n (pc := 7) dX12_talk_7 (by first | rfl | assumption | (repeat first | assumption | rfl | refine aG_n ?_ rfl rfl)) ?_
        refine wp_cS (pc := 8) dX12_talk_8 lk_12_143 rfl rfl rfl (c_X12_isHouse (fun _ => aK_i ?_) (fun q => absurd c1.2.1 q))
        refine wp_if_eq (pc := 11) (tgt := 31) dX12_talk_11 rfl (fun q => absurd q (by decide)) (fun _ => ?_)
        refine wp_iload_n (pc := 14) dX12_talk_14 (by first | rfl | assumption | (repeat first | assumption | rfl | refine aG_n ?_ rfl rfl)) ?_
        refine wp_iload_n (pc := 15) dX12_talk_15 (by first | rfl | assumption | (repeat first | assumption | rfl | refine aG_n ?_ rfl rfl)) ?_
        refine wp_icmp_eq (pc := 16) (tgt := 31) dX12_talk_16 rfl (fun q => absurd q c1.2.2) (fun _ => ?_)
        refine wp_iload_n (pc := 19) dX12_talk_19 (by first | rfl | assumption | (repeat first | assumption | rfl | refine aG_n ?_ rfl rfl)) ?_
        refine wp_i2l (pc := 20) dX12_talk_20 ?_
        refine wp_lconst (pc := 21) (v := 1) dX12_talk_21 (by decide) ?_
        refine wp_ldc2 (pc := 22) dX12_talk_22 cl_12_233 ?_
        refine wp_cS (pc := 25) dX12_talk_25 lk_12_133 rfl rfl rfl (c_X12_in (fun _ => aK_i ?_) (fun q => absurd (by rw [w_int]; exact c2) q))
        refine wp_if_ne (pc := 28) (tgt := 33) dX12_talk_28 rfl (fun _ => ?_) (fun q => absurd q (by decide))
        refine wp_aload_n (pc := 33) dX12_talk_33 (by first | rfl | assumption | (repeat first | assumption | rfl | refine aG_n ?_ rfl rfl)) ?_
        refine wp_cV (pc := 34) dX12_talk_34 lk_12_147 rfl (by decide) rfl (by first | rfl | assumption | exact sh_house (by omega) | exact sh_wish (by omega) | exact sh_wor (by omega) | exact sh_bar (by omega) | exact sh_term (by omega) | exact sh_sheet (by omega) | exact sh_items (by omega) | exact sh_sums (by omega)) rfl rfl (c_X12_isTalking (fun _ => aK_i ?_) (fun q => absurd ho q))
        refine wp_if_eq (pc := 37) (tgt := 43) dX12_talk_37 rfl (fun q => absurd q (by decide)) (fun _ => ?_)
        refine wp_bipush (pc := 40) (v := -2) dX12_talk_40 (by decide) ?_
        refine wp_ireturn (pc := 42) dX12_talk_42 rfl (by first | rfl | decide | assumption) ?_
        exact k' _ hI
      · have hc : ¬ μ.1 73 0 = 1 := fun z => ho (t1.symm.trans z)
        obtain ⟨i, hi, rfl⟩ := inR_of (n := 3) c1.1
        obtain ⟨j, hj, rfl⟩ := inR_of (n := 3) c1.2.1
        have hi4 : i < 4 := by omega
        have hj4 : j < 4 := by omega
        have hij : i ≠ j := fun z => c1.2.2 (by rw [z])
        have ci : (nI i).toNatClampNeg = i := nI_clamp (by omega)
        have cj : (nI j).toNatClampNeg = j := nI_clamp (by omega)
        obtain ⟨mo, hmo, rfl⟩ := inR_of (n := 20) (v := n) ⟨by have := c2.1; omega, c2.2⟩
        have hmo1 : 1 ≤ mo := by have := c2.1; rw [nI_toInt (by omega)] at this; omega
        refine wp_iload_n (pc := 0) dX11_talk_0 (by first | rfl | assumption | (repeat first | assumption | rfl | refine aG_n ?_ rfl rfl)) ?_
        refine wp_iload_n (pc := 1) dX11_talk_1 (by first | rfl | assumption | (repeat first | assumption | rfl | refine aG_n ?_ rfl rfl)) ?_
        refine wp_cS (pc := 2) dX11_talk_2 lk_11_183 rfl rfl rfl (c_X11_isTwoHouses (fun _ => aK_i ?_) (fun q => absurd c1 q))
        refine wp_if_eq (pc := 5) (tgt := 18) dX11_talk_5 rfl (fun q => absurd q (by decide)) (fun _ => ?_)
        refine wp_iload_n (pc := 8) dX11_talk_8 (by first | rfl | assumption | (repeat first | assumption | rfl | refine aG_n ?_ rfl rfl)) ?_
        refine wp_iconst (pc := 9) (v := 1) dX11_talk_9 (by decide) ?_
        refine wp_bipush (pc := 10) (v := 20) dX11_talk_10 (by decide) ?_
        refine wp_cS (pc := 12) dX11_talk_12 lk_11_112 rfl rfl rfl (c_X11_isWithin (fun _ => aK_i ?_) (fun q => absurd c2 q))
        refine wp_if_ne (pc := 15) (tgt := 20) dX11_talk_15 rfl (fun _ => ?_) (fun q => absurd q (by decide))
        refine wp_aload_n (pc := 20) dX11_talk_20 (by first | rfl | assumption | (repeat first | assumption | rfl | refine aG_n ?_ rfl rfl)) ?_
        refine wp_getR (pc := 21) dX11_talk_21 fl_11_92 (by first | rfl | assumption | exact sh_house (by omega) | exact sh_wish (by omega) | exact sh_wor (by omega) | exact sh_bar (by omega) | exact sh_term (by omega) | exact sh_sheet (by omega) | exact sh_items (by omega) | exact sh_sums (by omega)) rfl ?_
        refine wp_cV (pc := 24) dX11_talk_24 lk_11_104 rfl (by decide) rfl (by first | rfl | assumption | exact sh_house (by omega) | exact sh_wish (by omega) | exact sh_wor (by omega) | exact sh_bar (by omega) | exact sh_term (by omega) | exact sh_sheet (by omega) | exact sh_items (by omega) | exact sh_sums (by omega)) rfl rfl (c_X7_isOpen (fun q => absurd q hc) (fun _ => aK_i ?_))
        refine wp_if_eq (pc := 27) (tgt := 33) dX11_talk_27 rfl (fun _ => ?_) (fun q => absurd q (by decide))
        refine wp_aload_n (pc := 33) dX11_talk_33 (by first | rfl | assumption | (repeat first | assumption | rfl | refine aG_n ?_ rfl rfl)) ?_
        refine wp_getR (pc := 34) dX11_talk_34 fl_11_92 (by first | rfl | assumption | exact sh_house (by omega) | exact sh_wish (by omega) | exact sh_wor (by omega) | exact sh_bar (by omega) | exact sh_term (by omega) | exact sh_sheet (by omega) | exact sh_items (by omega) | exact sh_sums (by omega)) rfl ?_
        refine wp_getR (pc := 37) dX11_talk_37 fl_11_199 (by first | rfl | assumption | exact sh_house (by omega) | exact sh_wish (by omega) | exact sh_wor (by omega) | exact sh_bar (by omega) | exact sh_term (by omega) | exact sh_sheet (by omega) | exact sh_items (by omega) | exact sh_sums (by omega)) rfl ?_
        refine wp_aload_n (pc := 40) dX11_talk_40 (by first | rfl | assumption | (repeat first | assumption | rfl | refine aG_n ?_ rfl rfl)) ?_
        refine wp_getR (pc := 41) dX11_talk_41 fl_11_11 (by first | rfl | assumption | exact sh_house (by omega) | exact sh_wish (by omega) | exact sh_wor (by omega) | exact sh_bar (by omega) | exact sh_term (by omega) | exact sh_sheet (by omega) | exact sh_items (by omega) | exact sh_sums (by omega)) rfl ?_
        refine wp_iload_n (pc := 44) dX11_talk_44 (by first | rfl | assumption | (repeat first | assumption | rfl | refine aG_n ?_ rfl rfl)) ?_
        refine wp_aald (pc := 45) dX11_talk_45 (by first | rfl | assumption | exact sh_house (by omega) | exact sh_wish (by omega) | exact sh_wor (by omega) | exact sh_bar (by omega) | exact sh_term (by omega) | exact sh_sheet (by omega) | exact sh_items (by omega) | exact sh_sums (by omega)) (vp_in_nI (by omega) (by decide)) (by decide) (el_house hi4) ?_
        refine wp_aload_n (pc := 46) dX11_talk_46 (by first | rfl | assumption | (repeat first | assumption | rfl | refine aG_n ?_ rfl rfl)) ?_
        refine wp_getR (pc := 47) dX11_talk_47 fl_11_11 (by first | rfl | assumption | exact sh_house (by omega) | exact sh_wish (by omega) | exact sh_wor (by omega) | exact sh_bar (by omega) | exact sh_term (by omega) | exact sh_sheet (by omega) | exact sh_items (by omega) | exact sh_sums (by omega)) rfl ?_
        refine wp_iload_n (pc := 50) dX11_talk_50 (by first | rfl | assumption | (repeat first | assumption | rfl | refine aG_n ?_ rfl rfl)) ?_
        refine wp_aald (pc := 51) dX11_talk_51 (by first | rfl | assumption | exact sh_house (by omega) | exact sh_wish (by omega) | exact sh_wor (by omega) | exact sh_bar (by omega) | exact sh_term (by omega) | exact sh_sheet (by omega) | exact sh_items (by omega) | exact sh_sums (by omega)) (vp_in_nI (by omega) (by decide)) (by decide) (el_house hj4) ?_
        refine wp_cV (pc := 52) dX11_talk_52 lk_11_172 rfl (by decide) rfl (by first | rfl | assumption | exact sh_house (by omega) | exact sh_wish (by omega) | exact sh_wor (by omega) | exact sh_bar (by omega) | exact sh_term (by omega) | exact sh_sheet (by omega) | exact sh_items (by omega) | exact sh_sums (by omega)) rfl rfl (c_X4_take rfl (by decide) (by decide) hI.1 hI.2.2.2.1 hi4 hj4 (fun μ1 e1 e2 hPr e3 e4 => aK_v ?_))
        refine wp_aload_n (pc := 55) dX11_talk_55 (by first | rfl | assumption | (repeat first | assumption | rfl | refine aG_n ?_ rfl rfl)) ?_
        refine wp_getR (pc := 56) dX11_talk_56 fl_11_92 (by first | rfl | assumption | exact sh_house (by omega) | exact sh_wish (by omega) | exact sh_wor (by omega) | exact sh_bar (by omega) | exact sh_term (by omega) | exact sh_sheet (by omega) | exact sh_items (by omega) | exact sh_sums (by omega)) rfl ?_
        refine wp_iload_n (pc := 59) dX11_talk_59 (by first | rfl | assumption | (repeat first | assumption | rfl | refine aG_n ?_ rfl rfl)) ?_
        refine wp_iload_n (pc := 60) dX11_talk_60 (by first | rfl | assumption | (repeat first | assumption | rfl | refine aG_n ?_ rfl rfl)) ?_
        refine wp_iload_n (pc := 61) dX11_talk_61 (by first | rfl | assumption | (repeat first | assumption | rfl | refine aG_n ?_ rfl rfl)) ?_
        refine wp_cV (pc := 62) dX11_talk_62 lk_11_202 rfl (by decide) rfl (by first | rfl | assumption | exact sh_house (by omega) | exact sh_wish (by omega) | exact sh_wor (by omega) | exact sh_bar (by omega) | exact sh_term (by omega) | exact sh_sheet (by omega) | exact sh_items (by omega) | exact sh_sums (by omega)) rfl rfl ?_
        refine wp_aload_n (pc := 0) dX7_begin_0 (by first | rfl | assumption | (repeat first | assumption | rfl | refine aG_n ?_ rfl rfl)) ?_
        refine wp_iload_n (pc := 1) dX7_begin_1 (by first | rfl | assumption | (repeat first | assumption | rfl | refine aG_n ?_ rfl rfl)) ?_
        refine wp_putI (pc := 2) dX7_begin_2 fl_7_32 (by first | rfl | assumption | exact sh_house (by omega) | exact sh_wish (by omega) | exact sh_wor (by omega) | exact sh_bar (by omega) | exact sh_term (by omega) | exact sh_sheet (by omega) | exact sh_items (by omega) | exact sh_sums (by omega)) rfl rfl rfl ?_
        refine wp_aload_n (pc := 5) dX7_begin_5 (by first | rfl | assumption | (repeat first | assumption | rfl | refine aG_n ?_ rfl rfl)) ?_
        refine wp_iload_n (pc := 6) dX7_begin_6 (by first | rfl | assumption | (repeat first | assumption | rfl | refine aG_n ?_ rfl rfl)) ?_
        refine wp_putI (pc := 7) dX7_begin_7 fl_7_15 (by first | rfl | assumption | exact sh_house (by omega) | exact sh_wish (by omega) | exact sh_wor (by omega) | exact sh_bar (by omega) | exact sh_term (by omega) | exact sh_sheet (by omega) | exact sh_items (by omega) | exact sh_sums (by omega)) rfl rfl rfl ?_
        refine wp_aload_n (pc := 10) dX7_begin_10 (by first | rfl | assumption | (repeat first | assumption | rfl | refine aG_n ?_ rfl rfl)) ?_
        refine wp_iload_n (pc := 11) dX7_begin_11 (by first | rfl | assumption | (repeat first | assumption | rfl | refine aG_n ?_ rfl rfl)) ?_
        refine wp_putI (pc := 12) dX7_begin_12 fl_7_35 (by first | rfl | assumption | exact sh_house (by omega) | exact sh_wish (by omega) | exact sh_wor (by omega) | exact sh_bar (by omega) | exact sh_term (by omega) | exact sh_sheet (by omega) | exact sh_items (by omega) | exact sh_sums (by omega)) rfl rfl rfl ?_
        refine wp_aload_n (pc := 15) dX7_begin_15 (by first | rfl | assumption | (repeat first | assumption | rfl | refine aG_n ?_ rfl rfl)) ?_
        refine wp_iconst (pc := 16) (v := 0) dX7_begin_16 (by decide) ?_
        refine wp_putI (pc := 17) dX7_begin_17 fl_7_38 (by first | rfl | assumption | exact sh_house (by omega) | exact sh_wish (by omega) | exact sh_wor (by omega) | exact sh_bar (by omega) | exact sh_term (by omega) | exact sh_sheet (by omega) | exact sh_items (by omega) | exact sh_sums (by omega)) rfl rfl rfl ?_
        refine wp_aload_n (pc := 20) dX7_begin_20 (by first | rfl | assumption | (repeat first | assumption | rfl | refine aG_n ?_ rfl rfl)) ?_
        refine wp_iconst (pc := 21) (v := 1) dX7_begin_21 (by decide) ?_
        refine wp_putI (pc := 22) dX7_begin_22 fl_7_11 (by first | rfl | assumption | exact sh_house (by omega) | exact sh_wish (by omega) | exact sh_wor (by omega) | exact sh_bar (by omega) | exact sh_term (by omega) | exact sh_sheet (by omega) | exact sh_items (by omega) | exact sh_sums (by omega)) rfl rfl rfl ?_
        refine wp_vretK (pc := 25) dX7_begin_25 rfl ?_
        refine wp_iconst (pc := 65) (v := 1) dX11_talk_65 (by decide) ?_
        refine wp_ireturn (pc := 66) dX11_talk_66 rfl (by first | rfl | decide | assumption) ?_
        refine k _ _ (fun Q' k' => ?_)
        have hJ := inv9 (R := μ.2) hI e1
        have hT9 : th μ1.1 = th μ.1 := by funext q; unfold th; rw [e1 87 (by decide)]
        have hs : ¬ up2 (up2 (up2 (up2 (up2 μ1.1 73 1 (nI i)) 73 2 (nI j)) 73 4 (nI mo)) 73 3 0) 73 0 1 86 15 = 1 := by simp (disch := omega) only [up2_ne]; rw [e1 86 (by decide)]; exact ho
        refine wp_iload_n (pc := 0) dX12_talk_0 (by first | rfl | assumption | (repeat first | assumption | rfl | refine aG_n ?_ rfl rfl)) ?_
        refine wp_cS (pc := 1) dX12_talk_1 lk_12_143 rfl rfl rfl (c_X12_isHouse (fun _ => aK_i ?_) (fun q => absurd c1.1 q))
        refine wp_if_eq (pc := 4) (tgt := 31) dX12_talk_4 rfl (fun q => absurd q (by decide)) (fun _ => ?_)
        refine wp_iload_n (pc := 7) dX12_talk_7 (by first | rfl | assumption | (repeat first | assumption | rfl | refine aG_n ?_ rfl rfl)) ?_
        refine wp_cS (pc := 8) dX12_talk_8 lk_12_143 rfl rfl rfl (c_X12_isHouse (fun _ => aK_i ?_) (fun q => absurd c1.2.1 q))
        refine wp_if_eq (pc := 11) (tgt := 31) dX12_talk_11 rfl (fun q => absurd q (by decide)) (fun _ => ?_)
        refine wp_iload_n (pc := 14) dX12_talk_14 (by first | rfl | assumption | (repeat first | assumption | rfl | refine aG_n ?_ rfl rfl)) ?_
        refine wp_iload_n (pc := 15) dX12_talk_15 (by first | rfl | assumption | (repeat first | assumption | rfl | refine aG_n ?_ rfl rfl)) ?_
        refine wp_icmp_eq (pc := 16) (tgt := 31) dX12_talk_16 rfl (fun q => absurd q c1.2.2) (fun _ => ?_)
        refine wp_iload_n (pc := 19) dX12_talk_19 (by first | rfl | assumption | (repeat first | assumption | rfl | refine aG_n ?_ rfl rfl)) ?_
        refine wp_i2l (pc := 20) dX12_talk_20 ?_
        refine wp_lconst (pc := 21) (v := 1) dX12_talk_21 (by decide) ?_
        refine wp_ldc2 (pc := 22) dX12_talk_22 cl_12_233 ?_
        refine wp_cS (pc := 25) dX12_talk_25 lk_12_133 rfl rfl rfl (c_X12_in (fun _ => aK_i ?_) (fun q => absurd (by rw [w_int]; exact c2) q))
        refine wp_if_ne (pc := 28) (tgt := 33) dX12_talk_28 rfl (fun _ => ?_) (fun q => absurd q (by decide))
        refine wp_aload_n (pc := 33) dX12_talk_33 (by first | rfl | assumption | (repeat first | assumption | rfl | refine aG_n ?_ rfl rfl)) ?_
        refine wp_cV (pc := 34) dX12_talk_34 lk_12_147 rfl (by decide) rfl (by first | rfl | assumption | exact sh_house (by omega) | exact sh_wish (by omega) | exact sh_wor (by omega) | exact sh_bar (by omega) | exact sh_term (by omega) | exact sh_sheet (by omega) | exact sh_items (by omega) | exact sh_sums (by omega)) rfl rfl (c_X12_isTalking (fun q => absurd q hs) (fun _ => aK_i ?_))
        refine wp_if_eq (pc := 37) (tgt := 43) dX12_talk_37 rfl (fun _ => ?_) (fun q => absurd q (by decide))
        refine wp_aload_n (pc := 43) dX12_talk_43 (by first | rfl | assumption | (repeat first | assumption | rfl | refine aG_n ?_ rfl rfl)) ?_
        refine wp_iconst (pc := 44) (v := 1) dX12_talk_44 (by decide) ?_
        refine wp_putI (pc := 45) dX12_talk_45 fl_12_137 (by first | rfl | assumption | exact sh_house (by omega) | exact sh_wish (by omega) | exact sh_wor (by omega) | exact sh_bar (by omega) | exact sh_term (by omega) | exact sh_sheet (by omega) | exact sh_items (by omega) | exact sh_sums (by omega)) rfl rfl rfl ?_
        refine wp_aload_n (pc := 48) dX12_talk_48 (by first | rfl | assumption | (repeat first | assumption | rfl | refine aG_n ?_ rfl rfl)) ?_
        refine wp_iload_n (pc := 49) dX12_talk_49 (by first | rfl | assumption | (repeat first | assumption | rfl | refine aG_n ?_ rfl rfl)) ?_
        refine wp_putI (pc := 50) dX12_talk_50 fl_12_235 (by first | rfl | assumption | exact sh_house (by omega) | exact sh_wish (by omega) | exact sh_wor (by omega) | exact sh_bar (by omega) | exact sh_term (by omega) | exact sh_sheet (by omega) | exact sh_items (by omega) | exact sh_sums (by omega)) rfl rfl rfl ?_
        refine wp_aload_n (pc := 53) dX12_talk_53 (by first | rfl | assumption | (repeat first | assumption | rfl | refine aG_n ?_ rfl rfl)) ?_
        refine wp_iload_n (pc := 54) dX12_talk_54 (by first | rfl | assumption | (repeat first | assumption | rfl | refine aG_n ?_ rfl rfl)) ?_
        refine wp_putI (pc := 55) dX12_talk_55 fl_12_238 (by first | rfl | assumption | exact sh_house (by omega) | exact sh_wish (by omega) | exact sh_wor (by omega) | exact sh_bar (by omega) | exact sh_term (by omega) | exact sh_sheet (by omega) | exact sh_items (by omega) | exact sh_sums (by omega)) rfl rfl rfl ?_
        refine wp_aload_n (pc := 58) dX12_talk_58 (by first | rfl | assumption | (repeat first | assumption | rfl | refine aG_n ?_ rfl rfl)) ?_
        refine wp_iload_n (pc := 59) dX12_talk_59 (by first | rfl | assumption | (repeat first | assumption | rfl | refine aG_n ?_ rfl rfl)) ?_
        refine wp_putI (pc := 60) dX12_talk_60 fl_12_241 (by first | rfl | assumption | exact sh_house (by omega) | exact sh_wish (by omega) | exact sh_wor (by omega) | exact sh_bar (by omega) | exact sh_term (by omega) | exact sh_sheet (by omega) | exact sh_items (by omega) | exact sh_sums (by omega)) rfl rfl rfl ?_
        refine wp_aload_n (pc := 63) dX12_talk_63 (by first | rfl | assumption | (repeat first | assumption | rfl | refine aG_n ?_ rfl rfl)) ?_
        refine wp_iconst (pc := 64) (v := 0) dX12_talk_64 (by decide) ?_
        refine wp_putI (pc := 65) dX12_talk_65 fl_12_244 (by first | rfl | assumption | exact sh_house (by omega) | exact sh_wish (by omega) | exact sh_wor (by omega) | exact sh_bar (by omega) | exact sh_term (by omega) | exact sh_sheet (by omega) | exact sh_items (by omega) | exact sh_sums (by omega)) rfl rfl rfl ?_
        refine wp_aload_n (pc := 68) dX12_talk_68 (by first | rfl | assumption | (repeat first | assumption | rfl | refine aG_n ?_ rfl rfl)) ?_
        refine wp_aload_n (pc := 69) dX12_talk_69 (by first | rfl | assumption | (repeat first | assumption | rfl | refine aG_n ?_ rfl rfl)) ?_
        refine wp_iload_n (pc := 70) dX12_talk_70 (by first | rfl | assumption | (repeat first | assumption | rfl | refine aG_n ?_ rfl rfl)) ?_
        refine wp_cV (pc := 71) dX12_talk_71 lk_12_208 rfl (by decide) rfl (by first | rfl | assumption | exact sh_house (by omega) | exact sh_wish (by omega) | exact sh_wor (by omega) | exact sh_bar (by omega) | exact sh_term (by omega) | exact sh_sheet (by omega) | exact sh_items (by omega) | exact sh_sums (by omega)) rfl rfl (c_X12_thingsOf (aK_i ?_))
        refine wp_putI (pc := 74) dX12_talk_74 fl_12_247 (by first | rfl | assumption | exact sh_house (by omega) | exact sh_wish (by omega) | exact sh_wor (by omega) | exact sh_bar (by omega) | exact sh_term (by omega) | exact sh_sheet (by omega) | exact sh_items (by omega) | exact sh_sums (by omega)) rfl rfl rfl ?_
        refine wp_aload_n (pc := 77) dX12_talk_77 (by first | rfl | assumption | (repeat first | assumption | rfl | refine aG_n ?_ rfl rfl)) ?_
        refine wp_aload_n (pc := 78) dX12_talk_78 (by first | rfl | assumption | (repeat first | assumption | rfl | refine aG_n ?_ rfl rfl)) ?_
        refine wp_iload_n (pc := 79) dX12_talk_79 (by first | rfl | assumption | (repeat first | assumption | rfl | refine aG_n ?_ rfl rfl)) ?_
        refine wp_cV (pc := 80) dX12_talk_80 lk_12_208 rfl (by decide) rfl (by first | rfl | assumption | exact sh_house (by omega) | exact sh_wish (by omega) | exact sh_wor (by omega) | exact sh_bar (by omega) | exact sh_term (by omega) | exact sh_sheet (by omega) | exact sh_items (by omega) | exact sh_sums (by omega)) rfl rfl (c_X12_thingsOf (aK_i ?_))
        refine wp_putI (pc := 83) dX12_talk_83 fl_12_250 (by first | rfl | assumption | exact sh_house (by omega) | exact sh_wish (by omega) | exact sh_wor (by omega) | exact sh_bar (by omega) | exact sh_term (by omega) | exact sh_sheet (by omega) | exact sh_items (by omega) | exact sh_sums (by omega)) rfl rfl rfl ?_
        refine wp_aload_n (pc := 86) dX12_talk_86 (by first | rfl | assumption | (repeat first | assumption | rfl | refine aG_n ?_ rfl rfl)) ?_
        refine wp_aload_n (pc := 87) dX12_talk_87 (by first | rfl | assumption | (repeat first | assumption | rfl | refine aG_n ?_ rfl rfl)) ?_
        refine wp_getR (pc := 88) dX12_talk_88 fl_12_13 (by first | rfl | assumption | exact sh_house (by omega) | exact sh_wish (by omega) | exact sh_wor (by omega) | exact sh_bar (by omega) | exact sh_term (by omega) | exact sh_sheet (by omega) | exact sh_items (by omega) | exact sh_sums (by omega)) rfl ?_
        refine wp_iload_n (pc := 91) dX12_talk_91 (by first | rfl | assumption | (repeat first | assumption | rfl | refine aG_n ?_ rfl rfl)) ?_
        refine wp_iald (pc := 92) dX12_talk_92 (by first | rfl | assumption | exact sh_house (by omega) | exact sh_wish (by omega) | exact sh_wor (by omega) | exact sh_bar (by omega) | exact sh_term (by omega) | exact sh_sheet (by omega) | exact sh_items (by omega) | exact sh_sums (by omega)) (vp_in_nI (by omega) (by decide)) ?_
        refine wp_putI (pc := 93) dX12_talk_93 fl_12_253 (by first | rfl | assumption | exact sh_house (by omega) | exact sh_wish (by omega) | exact sh_wor (by omega) | exact sh_bar (by omega) | exact sh_term (by omega) | exact sh_sheet (by omega) | exact sh_items (by omega) | exact sh_sums (by omega)) rfl rfl rfl ?_
        refine wp_aload_n (pc := 96) dX12_talk_96 (by first | rfl | assumption | (repeat first | assumption | rfl | refine aG_n ?_ rfl rfl)) ?_
        refine wp_aload_n (pc := 97) dX12_talk_97 (by first | rfl | assumption | (repeat first | assumption | rfl | refine aG_n ?_ rfl rfl)) ?_
        refine wp_getR (pc := 98) dX12_talk_98 fl_12_13 (by first | rfl | assumption | exact sh_house (by omega) | exact sh_wish (by omega) | exact sh_wor (by omega) | exact sh_bar (by omega) | exact sh_term (by omega) | exact sh_sheet (by omega) | exact sh_items (by omega) | exact sh_sums (by omega)) rfl ?_
        refine wp_iload_n (pc := 101) dX12_talk_101 (by first | rfl | assumption | (repeat first | assumption | rfl | refine aG_n ?_ rfl rfl)) ?_
        refine wp_iald (pc := 102) dX12_talk_102 (by first | rfl | assumption | exact sh_house (by omega) | exact sh_wish (by omega) | exact sh_wor (by omega) | exact sh_bar (by omega) | exact sh_term (by omega) | exact sh_sheet (by omega) | exact sh_items (by omega) | exact sh_sums (by omega)) (vp_in_nI (by omega) (by decide)) ?_
        refine wp_putI (pc := 103) dX12_talk_103 fl_12_256 (by first | rfl | assumption | exact sh_house (by omega) | exact sh_wish (by omega) | exact sh_wor (by omega) | exact sh_bar (by omega) | exact sh_term (by omega) | exact sh_sheet (by omega) | exact sh_items (by omega) | exact sh_sums (by omega)) rfl rfl rfl ?_
        refine wp_iconst (pc := 106) (v := 1) dX12_talk_106 (by decide) ?_
        refine wp_ireturn (pc := 107) dX12_talk_107 rfl (by first | rfl | decide | assumption) ?_
        refine k' _ ?_
        simp (disch := omega) only [up2_ne, up2_p, ci, cj]
        obtain ⟨p1, p2⟩ := hPr
        obtain ⟨⟨q1, q2⟩, q3, -, -⟩ := p2 0 (by decide)
        obtain ⟨⟨r1, r2⟩, r3, -, -⟩ := p2 1 (by decide)
        refine ⟨own_c (by simp (disch := omega) only [up2_ne, fil_ne]) (fun i9 hi9 => (by simp (disch := omega) only [up2_ne, up2_p, fil_ne, fil_p])) (hJ.1), coin_c (by simp (disch := omega) only [up2_ne, fil_ne]) (fun i9 hi9 => (by simp (disch := omega) only [up2_ne, up2_p, fil_ne, fil_p])) (hJ.2.1), lev_c ⟨(by simp (disch := omega) only [up2_ne, fil_ne]), (by simp (disch := omega) only [up2_ne, fil_ne]), (by simp (disch := omega) only [up2_ne, fil_ne])⟩ (fun i9 hi9 => ⟨(by simp (disch := omega) only [up2_ne, up2_p, fil_ne, fil_p]), (by simp (disch := omega) only [up2_ne, up2_p, fil_ne, fil_p]), (by simp (disch := omega) only [up2_ne, up2_p, fil_ne, fil_p])⟩) (hJ.2.2.1), wish_c ⟨(by simp (disch := omega) only [up2_ne, fil_ne]), (by simp (disch := omega) only [up2_ne, fil_ne]), (by simp (disch := omega) only [up2_ne, fil_ne]), (by simp (disch := omega) only [up2_ne, fil_ne])⟩ (fun i9 hi9 => ⟨(by simp (disch := omega) only [up2_ne, fil_ne]), (by simp (disch := omega) only [up2_ne, fil_ne]), (by simp (disch := omega) only [up2_ne, fil_ne])⟩) (hJ.2.2.2.1), tape_c (by simp (disch := omega) only [up2_ne, up2_p, fil_ne, fil_p]) (by simp (disch := omega) only [up2_ne, up2_p, fil_ne, fil_p]) (by simp (disch := omega) only [up2_ne, fil_ne]) (by simp (disch := omega) only [up2_ne, fil_ne]) (hJ.2.2.2.2.1), ?_, led_c (by simp (disch := omega) only [up2_ne, up2_p, fil_ne, fil_p]) (by simp (disch := omega) only [up2_ne, up2_p, fil_ne, fil_p]) (fun i9 hi9 => (by simp (disch := omega) only [up2_ne, fil_ne])) (fun c9 hc9 hd9 => (by simp (disch := omega) only [up2_ne, fil_ne])) ⟨(by simp (disch := omega) only [up2_ne, fil_ne]), (by simp (disch := omega) only [up2_ne, fil_ne])⟩ (hJ.2.2.2.2.2.2.1), row_c (by simp (disch := omega) only [up2_ne, fil_ne]) (by simp (disch := omega) only [up2_ne, fil_ne]) (hJ.2.2.2.2.2.2.2.1), sheet_c ⟨(by simp (disch := omega) only [up2_ne, fil_ne]), (by simp (disch := omega) only [up2_ne, fil_ne]), (by simp (disch := omega) only [up2_ne, fil_ne])⟩ (fun s9 hs9 => ⟨(by simp (disch := omega) only [up2_ne, fil_ne]), (by simp (disch := omega) only [up2_ne, fil_ne])⟩) (hJ.2.2.2.2.2.2.2.2.1), grp_c (by simp (disch := omega) only [up2_ne, up2_p, fil_ne, fil_p]) (fun g9 hg9 => (by simp (disch := omega) only [up2_ne, fil_ne])) (fun i9 hi9 => ⟨(by simp (disch := omega) only [up2_ne, fil_ne]), (by simp (disch := omega) only [up2_ne, fil_ne])⟩) (hJ.2.2.2.2.2.2.2.2.2)⟩
        unfold I_talk isOf
        simp (disch := omega) only [up2_ne, up2_p, up2_at]
        refine ⟨trivial, by unfold inR; decide, trivial, fun q hq => ?_, 0, by omega, rfl, fun z => absurd z (by decide), fun _ => ⟨i, j, mo, ⟨hi4, hj4, hij⟩, ⟨rfl, rfl, rfl, rfl⟩, ⟨rfl, rfl, hmo, by omega, fun _ => by omega⟩, ?_, ?_, ?_, ?_, ?_, fun _ => ?_, fun q hq => by omega⟩⟩
        · rw [e1 75 (by decide), e1 76 (by decide), e1 77 (by decide), e1 100 (by decide), e1 101 (by decide), e1 102 (by decide)]; exact t4 q hq
        · exact ⟨by rw [q1]; show nI (th μ.1 i) = nI (th μ1.1 i); rw [hT9], by rw [r1]; show nI (th μ.1 j) = nI (th μ1.1 j); rw [hT9], by rw [e3, e1 88 (by decide)]; exact (hI.2.1 i hi4).1, by rw [e4, e1 88 (by decide)]; exact (hI.2.1 j hj4).1⟩
        · exact ⟨q3, r3⟩
        · exact ⟨th μ1.1 i, th μ1.1 j, th_lt _ _, th_lt _ _, th_dis ⟨by rw [e1 87 (by decide)]; exact hI.1.1, trivial⟩ hi4 hj4 hij, rfl, rfl⟩
        · rw [e1 88 (by decide)]; exact (hI.2.1 i hi4).2
        · rw [e1 88 (by decide)]; exact (hI.2.1 j hj4).2
        · exact ⟨rfl, rfl, rfl, rfl⟩
    · skip
      refine wp_iload_n (pc := 0) dX11_talk_0 (by first | rfl | assumption | (repeat first | assumption | rfl | refine aG_n ?_ rfl rfl)) ?_
      refine wp_iload_n (pc := 1) dX11_talk_1 (by first | rfl | assumption | (repeat first | assumption | rfl | refine aG_n ?_ rfl rfl)) ?_
      refine wp_cS (pc := 2) dX11_talk_2 lk_11_183 rfl rfl rfl (c_X11_isTwoHouses (fun _ => aK_i ?_) (fun q => absurd c1 q))
      refine wp_if_eq (pc := 5) (tgt := 18) dX11_talk_5 rfl (fun q => absurd q (by decide)) (fun _ => ?_)
      refine wp_iload_n (pc := 8) dX11_talk_8 (by first | rfl | assumption | (repeat first | assumption | rfl | refine aG_n ?_ rfl rfl)) ?_
      refine wp_iconst (pc := 9) (v := 1) dX11_talk_9 (by decide) ?_
      refine wp_bipush (pc := 10) (v := 20) dX11_talk_10 (by decide) ?_
      refine wp_cS (pc := 12) dX11_talk_12 lk_11_112 rfl rfl rfl (c_X11_isWithin (fun q => absurd q c2) (fun _ => aK_i ?_))
      refine wp_if_ne (pc := 15) (tgt := 20) dX11_talk_15 rfl (fun q => absurd q (by decide)) (fun _ => ?_)
      refine wp_iconst (pc := 18) (v := -1) dX11_talk_18 (by decide) ?_
      refine wp_ireturn (pc := 19) dX11_talk_19 rfl (by first | rfl | decide | assumption) ?_
      refine k _ _ (fun Q' k' => ?_)
      refine wp_iload_n (pc := 0) dX12_talk_0 (by first | rfl | assumption | (repeat first | assumption | rfl | refine aG_n ?_ rfl rfl)) ?_
      refine wp_cS (pc := 1) dX12_talk_1 lk_12_143 rfl rfl rfl (c_X12_isHouse (fun _ => aK_i ?_) (fun q => absurd c1.1 q))
      refine wp_if_eq (pc := 4) (tgt := 31) dX12_talk_4 rfl (fun q => absurd q (by decide)) (fun _ => ?_)
      refine wp_iload_n (pc := 7) dX12_talk_7 (by first | rfl | assumption | (repeat first | assumption | rfl | refine aG_n ?_ rfl rfl)) ?_
      refine wp_cS (pc := 8) dX12_talk_8 lk_12_143 rfl rfl rfl (c_X12_isHouse (fun _ => aK_i ?_) (fun q => absurd c1.2.1 q))
      refine wp_if_eq (pc := 11) (tgt := 31) dX12_talk_11 rfl (fun q => absurd q (by decide)) (fun _ => ?_)
      refine wp_iload_n (pc := 14) dX12_talk_14 (by first | rfl | assumption | (repeat first | assumption | rfl | refine aG_n ?_ rfl rfl)) ?_
      refine wp_iload_n (pc := 15) dX12_talk_15 (by first | rfl | assumption | (repeat first | assumption | rfl | refine aG_n ?_ rfl rfl)) ?_
      refine wp_icmp_eq (pc := 16) (tgt := 31) dX12_talk_16 rfl (fun q => absurd q c1.2.2) (fun _ => ?_)
      refine wp_iload_n (pc := 19) dX12_talk_19 (by first | rfl | assumption | (repeat first | assumption | rfl | refine aG_n ?_ rfl rfl)) ?_
      refine wp_i2l (pc := 20) dX12_talk_20 ?_
      refine wp_lconst (pc := 21) (v := 1) dX12_talk_21 (by decide) ?_
      refine wp_ldc2 (pc := 22) dX12_talk_22 cl_12_233 ?_
      refine wp_cS (pc := 25) dX12_talk_25 lk_12_133 rfl rfl rfl (c_X12_in (fun q => absurd q (by rw [w_int]; exact c2)) (fun _ => aK_i ?_))
      refine wp_if_ne (pc := 28) (tgt := 33) dX12_talk_28 rfl (fun q => absurd q (by decide)) (fun _ => ?_)
      refine wp_iconst (pc := 31) (v := -1) dX12_talk_31 (by decide) ?_
      refine wp_ireturn (pc := 32) dX12_talk_32 rfl (by first | rfl | decide | assumption) ?_
      exact k' _ hI
  · skip
    refine wp_iload_n (pc := 0) dX11_talk_0 (by first | rfl | assumption | (repeat first | assumption | rfl | refine aG_n ?_ rfl rfl)) ?_
    refine wp_iload_n (pc := 1) dX11_talk_1 (by first | rfl | assumption | (repeat first | assumption | rfl | refine aG_n ?_ rfl rfl)) ?_
    refine wp_cS (pc := 2) dX11_talk_2 lk_11_183 rfl rfl rfl (c_X11_isTwoHouses (fun q => absurd q c1) (fun _ => aK_i ?_))
    refine wp_if_eq (pc := 5) (tgt := 18) dX11_talk_5 rfl (fun _ => ?_) (fun q => absurd q (by decide))
    refine wp_iconst (pc := 18) (v := -1) dX11_talk_18 (by decide) ?_
    refine wp_ireturn (pc := 19) dX11_talk_19 rfl (by first | rfl | decide | assumption) ?_
    refine k _ _ (fun Q' k' => ?_)
    by_cases d1 : inR a 0 3
    · by_cases d2 : inR b 0 3
      · have d3 : a = b := Classical.byContradiction (fun z => c1 ⟨d1, d2, z⟩)
        refine wp_iload_n (pc := 0) dX12_talk_0 (by first | rfl | assumption | (repeat first | assumption | rfl | refine aG_n ?_ rfl rfl)) ?_
        refine wp_cS (pc := 1) dX12_talk_1 lk_12_143 rfl rfl rfl (c_X12_isHouse (fun _ => aK_i ?_) (fun q => absurd d1 q))
        refine wp_if_eq (pc := 4) (tgt := 31) dX12_talk_4 rfl (fun q => absurd q (by decide)) (fun _ => ?_)
        refine wp_iload_n (pc := 7) dX12_talk_7 (by first | rfl | assumption | (repeat first | assumption | rfl | refine aG_n ?_ rfl rfl)) ?_
        refine wp_cS (pc := 8) dX12_talk_8 lk_12_143 rfl rfl rfl (c_X12_isHouse (fun _ => aK_i ?_) (fun q => absurd d2 q))
        refine wp_if_eq (pc := 11) (tgt := 31) dX12_talk_11 rfl (fun q => absurd q (by decide)) (fun _ => ?_)
        refine wp_iload_n (pc := 14) dX12_talk_14 (by first | rfl | assumption | (repeat first | assumption | rfl | refine aG_n ?_ rfl rfl)) ?_
        refine wp_iload_n (pc := 15) dX12_talk_15 (by first | rfl | assumption | (repeat first | assumption | rfl | refine aG_n ?_ rfl rfl)) ?_
        refine wp_icmp_eq (pc := 16) (tgt := 31) dX12_talk_16 rfl (fun _ => ?_) (fun q => absurd d3 q)
        refine wp_iconst (pc := 31) (v := -1) dX12_talk_31 (by decide) ?_
        refine wp_ireturn (pc := 32) dX12_talk_32 rfl (by first | rfl | decide | assumption) ?_
        exact k' _ hI
      · skip
        refine wp_iload_n (pc := 0) dX12_talk_0 (by first | rfl | assumption | (repeat first | assumption | rfl | refine aG_n ?_ rfl rfl)) ?_
        refine wp_cS (pc := 1) dX12_talk_1 lk_12_143 rfl rfl rfl (c_X12_isHouse (fun _ => aK_i ?_) (fun q => absurd d1 q))
        refine wp_if_eq (pc := 4) (tgt := 31) dX12_talk_4 rfl (fun q => absurd q (by decide)) (fun _ => ?_)
        refine wp_iload_n (pc := 7) dX12_talk_7 (by first | rfl | assumption | (repeat first | assumption | rfl | refine aG_n ?_ rfl rfl)) ?_
        refine wp_cS (pc := 8) dX12_talk_8 lk_12_143 rfl rfl rfl (c_X12_isHouse (fun q => absurd q d2) (fun _ => aK_i ?_))
        refine wp_if_eq (pc := 11) (tgt := 31) dX12_talk_11 rfl (fun _ => ?_) (fun q => absurd q (by decide))
        refine wp_iconst (pc := 31) (v := -1) dX12_talk_31 (by decide) ?_
        refine wp_ireturn (pc := 32) dX12_talk_32 rfl (by first | rfl | decide | assumption) ?_
        exact k' _ hI
    · skip
      refine wp_iload_n (pc := 0) dX12_talk_0 (by first | rfl | assumption | (repeat first | assumption | rfl | refine aG_n ?_ rfl rfl)) ?_
      refine wp_cS (pc := 1) dX12_talk_1 lk_12_143 rfl rfl rfl (c_X12_isHouse (fun q => absurd q d1) (fun _ => aK_i ?_))
      refine wp_if_eq (pc := 4) (tgt := 31) dX12_talk_4 rfl (fun _ => ?_) (fun q => absurd q (by decide))
      refine wp_iconst (pc := 31) (v := -1) dX12_talk_31 (by decide) ?_
      refine wp_ireturn (pc := 32) dX12_talk_32 rfl (by first | rfl | decide | assumption) ?_
      exact k' _ hI

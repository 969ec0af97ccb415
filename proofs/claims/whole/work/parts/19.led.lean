def ledC (M : MM) (n : Nat) (kd a b c ab wi : Int32) : MM := up2 (up2 (up2 (up2 (up2 (up2 (up2 M (36 + n) 0 kd) (36 + n) 1 a) (36 + n) 2 b) (36 + n) 3 c) (36 + n) 4 ab) (36 + n) 5 wi) 31 2 (nI (n + 1))
def ledM (M : MM) (n : Nat) (kd a b c ab wi : Int32) : MM := up2 (up2 (up2 (up2 (up2 (up2 (up2 (up2 M 111 n kd) 112 n a) 113 n b) 114 n c) 115 n ab) 116 n wi) 117 n (-4)) 86 37 (nI (n + 1))
theorem nI_back (n : Nat) : nI (n + 1) - 1 = nI n := nI_pred n
section LED
variable {X : aX} {μ : Mm} {Q : Option Value → Mm → Prop}
theorem c_X2_add {n : Nat} {kd a b c ab wi : Int32} (hn : n ≤ 16) (h31 : μ.1 31 2 = nI n) (k0 : n = 16 → Q (some (.int (-3))) μ) (k1 : n < 16 → Q (some (.int (nI n))) (ledC μ.1 n kd a b c ab wi, μ.2)) : WP X mX2_add 0 (lv_args 0 [.ref 31, .int kd, .int a, .int b, .int c, .int ab, .int wi]) [] μ Q := by
  by_cases h : n = 16
  · refine wp_aload_n (pc := 0) dX2_add_0 (by first | rfl | assumption | (repeat first | assumption | rfl | refine aG_n ?_ rfl rfl)) ?_
    refine wp_getI (pc := 1) dX2_add_1 fl_2_28 (by first | rfl | assumption | exact sh_house (by omega) | exact sh_wish (by omega) | exact sh_wor (by omega) | exact sh_bar (by omega) | exact sh_term (by omega) | exact sh_sheet (by omega) | exact sh_items (by omega) | exact sh_sums (by omega)) rfl ?_
    refine wp_if_lt (pc := 4) (tgt := 16) dX2_add_4 rfl (fun q => absurd q (by rw [h31]; exact nI_pos (by omega))) (fun _ => ?_)
    refine wp_aload_n (pc := 7) dX2_add_7 (by first | rfl | assumption | (repeat first | assumption | rfl | refine aG_n ?_ rfl rfl)) ?_
    refine wp_getI (pc := 8) dX2_add_8 fl_2_28 (by first | rfl | assumption | exact sh_house (by omega) | exact sh_wish (by omega) | exact sh_wor (by omega) | exact sh_bar (by omega) | exact sh_term (by omega) | exact sh_sheet (by omega) | exact sh_items (by omega) | exact sh_sums (by omega)) rfl ?_
    refine wp_bipush (pc := 11) (v := 16) dX2_add_11 (by decide) ?_
    refine wp_icmp_lt (pc := 13) (tgt := 19) dX2_add_13 rfl (fun q => absurd q (by rw [h31]; exact nI_nlt (a := n) (b := 16) (by omega) (by omega))) (fun _ => ?_)
    refine wp_bipush (pc := 16) (v := -3) dX2_add_16 (by decide) ?_
    refine wp_ireturn (pc := 18) dX2_add_18 rfl (by first | rfl | decide | assumption) ?_
    exact k0 h
  · refine wp_aload_n (pc := 0) dX2_add_0 (by first | rfl | assumption | (repeat first | assumption | rfl | refine aG_n ?_ rfl rfl)) ?_
    refine wp_getI (pc := 1) dX2_add_1 fl_2_28 (by first | rfl | assumption | exact sh_house (by omega) | exact sh_wish (by omega) | exact sh_wor (by omega) | exact sh_bar (by omega) | exact sh_term (by omega) | exact sh_sheet (by omega) | exact sh_items (by omega) | exact sh_sums (by omega)) rfl ?_
    refine wp_if_lt (pc := 4) (tgt := 16) dX2_add_4 rfl (fun q => absurd q (by rw [h31]; exact nI_pos (by omega))) (fun _ => ?_)
    refine wp_aload_n (pc := 7) dX2_add_7 (by first | rfl | assumption | (repeat first | assumption | rfl | refine aG_n ?_ rfl rfl)) ?_
    refine wp_getI (pc := 8) dX2_add_8 fl_2_28 (by first | rfl | assumption | exact sh_house (by omega) | exact sh_wish (by omega) | exact sh_wor (by omega) | exact sh_bar (by omega) | exact sh_term (by omega) | exact sh_sheet (by omega) | exact sh_items (by omega) | exact sh_sums (by omega)) rfl ?_
    refine wp_bipush (pc := 11) (v := 16) dX2_add_11 (by decide) ?_
    refine wp_icmp_lt (pc := 13) (tgt := 19) dX2_add_13 rfl (fun _ => ?_) (fun q => absurd (by rw [h31]; exact nI_lt (a := n) (b := 16) (by omega) (by omega)) q)
    refine wp_aload_n (pc := 19) dX2_add_19 (by first | rfl | assumption | (repeat first | assumption | rfl | refine aG_n ?_ rfl rfl)) ?_
    refine wp_getR (pc := 20) dX2_add_20 fl_2_13 (by first | rfl | assumption | exact sh_house (by omega) | exact sh_wish (by omega) | exact sh_wor (by omega) | exact sh_bar (by omega) | exact sh_term (by omega) | exact sh_sheet (by omega) | exact sh_items (by omega) | exact sh_sums (by omega)) rfl ?_
    refine wp_aload_n (pc := 23) dX2_add_23 (by first | rfl | assumption | (repeat first | assumption | rfl | refine aG_n ?_ rfl rfl)) ?_
    refine wp_getI (pc := 24) dX2_add_24 fl_2_28 (by first | rfl | assumption | exact sh_house (by omega) | exact sh_wish (by omega) | exact sh_wor (by omega) | exact sh_bar (by omega) | exact sh_term (by omega) | exact sh_sheet (by omega) | exact sh_items (by omega) | exact sh_sums (by omega)) rfl ?_
    refine wp_aald (pc := 27) dX2_add_27 (by first | rfl | assumption | exact sh_house (by omega) | exact sh_wish (by omega) | exact sh_wor (by omega) | exact sh_bar (by omega) | exact sh_term (by omega) | exact sh_sheet (by omega) | exact sh_items (by omega) | exact sh_sums (by omega)) (by rw [h31]; exact vp_in_nI (by omega) (by decide)) (by decide) (show _ = some (36 + n) by rw [h31]; exact el_term (by omega)) ?_
    refine wp_astore (pc := 28) dX2_add_28 (by decide) ?_
    refine wp_aload (pc := 30) dX2_add_30 (by first | rfl | assumption | (repeat first | assumption | rfl | refine aG_n ?_ rfl rfl)) ?_
    refine wp_iload_n (pc := 32) dX2_add_32 (by first | rfl | assumption | (repeat first | assumption | rfl | refine aG_n ?_ rfl rfl)) ?_
    refine wp_putI (pc := 33) dX2_add_33 fl_2_32 (by first | rfl | assumption | exact sh_house (by omega) | exact sh_wish (by omega) | exact sh_wor (by omega) | exact sh_bar (by omega) | exact sh_term (by omega) | exact sh_sheet (by omega) | exact sh_items (by omega) | exact sh_sums (by omega)) rfl rfl rfl ?_
    refine wp_aload (pc := 36) dX2_add_36 (by first | rfl | assumption | (repeat first | assumption | rfl | refine aG_n ?_ rfl rfl)) ?_
    refine wp_iload_n (pc := 38) dX2_add_38 (by first | rfl | assumption | (repeat first | assumption | rfl | refine aG_n ?_ rfl rfl)) ?_
    refine wp_putI (pc := 39) dX2_add_39 fl_2_35 (by first | rfl | assumption | exact sh_house (by omega) | exact sh_wish (by omega) | exact sh_wor (by omega) | exact sh_bar (by omega) | exact sh_term (by omega) | exact sh_sheet (by omega) | exact sh_items (by omega) | exact sh_sums (by omega)) rfl rfl rfl ?_
    refine wp_aload (pc := 42) dX2_add_42 (by first | rfl | assumption | (repeat first | assumption | rfl | refine aG_n ?_ rfl rfl)) ?_
    refine wp_iload_n (pc := 44) dX2_add_44 (by first | rfl | assumption | (repeat first | assumption | rfl | refine aG_n ?_ rfl rfl)) ?_
    refine wp_putI (pc := 45) dX2_add_45 fl_2_38 (by first | rfl | assumption | exact sh_house (by omega) | exact sh_wish (by omega) | exact sh_wor (by omega) | exact sh_bar (by omega) | exact sh_term (by omega) | exact sh_sheet (by omega) | exact sh_items (by omega) | exact sh_sums (by omega)) rfl rfl rfl ?_
    refine wp_aload (pc := 48) dX2_add_48 (by first | rfl | assumption | (repeat first | assumption | rfl | refine aG_n ?_ rfl rfl)) ?_
    refine wp_iload (pc := 50) dX2_add_50 (by first | rfl | assumption | (repeat first | assumption | rfl | refine aG_n ?_ rfl rfl)) ?_
    refine wp_putI (pc := 52) dX2_add_52 fl_2_41 (by first | rfl | assumption | exact sh_house (by omega) | exact sh_wish (by omega) | exact sh_wor (by omega) | exact sh_bar (by omega) | exact sh_term (by omega) | exact sh_sheet (by omega) | exact sh_items (by omega) | exact sh_sums (by omega)) rfl rfl rfl ?_
    refine wp_aload (pc := 55) dX2_add_55 (by first | rfl | assumption | (repeat first | assumption | rfl | refine aG_n ?_ rfl rfl)) ?_
    refine wp_iload (pc := 57) dX2_add_57 (by first | rfl | assumption | (repeat first | assumption | rfl | refine aG_n ?_ rfl rfl)) ?_
    refine wp_putI (pc := 59) dX2_add_59 fl_2_44 (by first | rfl | assumption | exact sh_house (by omega) | exact sh_wish (by omega) | exact sh_wor (by omega) | exact sh_bar (by omega) | exact sh_term (by omega) | exact sh_sheet (by omega) | exact sh_items (by omega) | exact sh_sums (by omega)) rfl rfl rfl ?_
    refine wp_aload (pc := 62) dX2_add_62 (by first | rfl | assumption | (repeat first | assumption | rfl | refine aG_n ?_ rfl rfl)) ?_
    refine wp_iload (pc := 64) dX2_add_64 (by first | rfl | assumption | (repeat first | assumption | rfl | refine aG_n ?_ rfl rfl)) ?_
    refine wp_putI (pc := 66) dX2_add_66 fl_2_47 (by first | rfl | assumption | exact sh_house (by omega) | exact sh_wish (by omega) | exact sh_wor (by omega) | exact sh_bar (by omega) | exact sh_term (by omega) | exact sh_sheet (by omega) | exact sh_items (by omega) | exact sh_sums (by omega)) rfl rfl rfl ?_
    refine wp_aload_n (pc := 69) dX2_add_69 (by first | rfl | assumption | (repeat first | assumption | rfl | refine aG_n ?_ rfl rfl)) ?_
    refine wp_dupr (pc := 70) dX2_add_70 ?_
    refine wp_getI (pc := 71) dX2_add_71 fl_2_28 (by first | rfl | assumption | exact sh_house (by omega) | exact sh_wish (by omega) | exact sh_wor (by omega) | exact sh_bar (by omega) | exact sh_term (by omega) | exact sh_sheet (by omega) | exact sh_items (by omega) | exact sh_sums (by omega)) rfl ?_
    refine wp_iconst (pc := 74) (v := 1) dX2_add_74 (by decide) ?_
    refine wp_iadd (pc := 75) dX2_add_75 ?_
    refine wp_putI (pc := 76) dX2_add_76 fl_2_28 (by first | rfl | assumption | exact sh_house (by omega) | exact sh_wish (by omega) | exact sh_wor (by omega) | exact sh_bar (by omega) | exact sh_term (by omega) | exact sh_sheet (by omega) | exact sh_items (by omega) | exact sh_sums (by omega)) rfl rfl rfl ?_
    refine wp_aload_n (pc := 79) dX2_add_79 (by first | rfl | assumption | (repeat first | assumption | rfl | refine aG_n ?_ rfl rfl)) ?_
    refine wp_getI (pc := 80) dX2_add_80 fl_2_28 (by first | rfl | assumption | exact sh_house (by omega) | exact sh_wish (by omega) | exact sh_wor (by omega) | exact sh_bar (by omega) | exact sh_term (by omega) | exact sh_sheet (by omega) | exact sh_items (by omega) | exact sh_sums (by omega)) rfl ?_
    refine wp_iconst (pc := 83) (v := 1) dX2_add_83 (by decide) ?_
    refine wp_isub (pc := 84) dX2_add_84 ?_
    refine wp_ireturn (pc := 85) dX2_add_85 rfl (by first | rfl | decide | assumption) ?_
    refine qEq ?_ (mEq ?_ (k1 (by omega)))
    · simp (disch := omega) only [up2_ne, up2_p, up2_at, h31, nI_1, nI_back]
    · unfold ledC
      simp (disch := omega) only [up2_ne, up2_p, up2_at, h31, nI_1]
theorem c_X12_addTerm {n : Nat} {kd a b c ab wi : Int32} (hn : n ≤ 16) (h86 : μ.1 86 37 = nI n) (k0 : n = 16 → Q (some (.int (-3))) μ) (k1 : n < 16 → Q (some (.int (nI n))) (ledM μ.1 n kd a b c ab wi, μ.2)) : WP X mX12_addTerm 0 (lv_args 0 [.ref 86, .int kd, .int a, .int b, .int c, .int ab, .int wi]) [] μ Q := by
  by_cases h : n = 16
  · refine wp_aload_n (pc := 0) dX12_addTerm_0 (by first | rfl | assumption | (repeat first | assumption | rfl | refine aG_n ?_ rfl rfl)) ?_
    refine wp_getI (pc := 1) dX12_addTerm_1 fl_12_319 (by first | rfl | assumption | exact sh_house (by omega) | exact sh_wish (by omega) | exact sh_wor (by omega) | exact sh_bar (by omega) | exact sh_term (by omega) | exact sh_sheet (by omega) | exact sh_items (by omega) | exact sh_sums (by omega)) rfl ?_
    refine wp_bipush (pc := 4) (v := 16) dX12_addTerm_4 (by decide) ?_
    refine wp_icmp_ne (pc := 6) (tgt := 12) dX12_addTerm_6 rfl (fun q => absurd (by rw [h86, h]; rfl) q) (fun _ => ?_)
    refine wp_bipush (pc := 9) (v := -3) dX12_addTerm_9 (by decide) ?_
    refine wp_ireturn (pc := 11) dX12_addTerm_11 rfl (by first | rfl | decide | assumption) ?_
    exact k0 h
  · refine wp_aload_n (pc := 0) dX12_addTerm_0 (by first | rfl | assumption | (repeat first | assumption | rfl | refine aG_n ?_ rfl rfl)) ?_
    refine wp_getI (pc := 1) dX12_addTerm_1 fl_12_319 (by first | rfl | assumption | exact sh_house (by omega) | exact sh_wish (by omega) | exact sh_wor (by omega) | exact sh_bar (by omega) | exact sh_term (by omega) | exact sh_sheet (by omega) | exact sh_items (by omega) | exact sh_sums (by omega)) rfl ?_
    refine wp_bipush (pc := 4) (v := 16) dX12_addTerm_4 (by decide) ?_
    refine wp_icmp_ne (pc := 6) (tgt := 12) dX12_addTerm_6 rfl (fun _ => ?_) (fun q => absurd q (by rw [h86]; exact fun z => h ((nI_eq (a := n) (b := 16) (by omega) (by omega)).mp z)))
    refine wp_aload_n (pc := 12) dX12_addTerm_12 (by first | rfl | assumption | (repeat first | assumption | rfl | refine aG_n ?_ rfl rfl)) ?_
    refine wp_getR (pc := 13) dX12_addTerm_13 fl_12_83 (by first | rfl | assumption | exact sh_house (by omega) | exact sh_wish (by omega) | exact sh_wor (by omega) | exact sh_bar (by omega) | exact sh_term (by omega) | exact sh_sheet (by omega) | exact sh_items (by omega) | exact sh_sums (by omega)) rfl ?_
    refine wp_aload_n (pc := 16) dX12_addTerm_16 (by first | rfl | assumption | (repeat first | assumption | rfl | refine aG_n ?_ rfl rfl)) ?_
    refine wp_getI (pc := 17) dX12_addTerm_17 fl_12_319 (by first | rfl | assumption | exact sh_house (by omega) | exact sh_wish (by omega) | exact sh_wor (by omega) | exact sh_bar (by omega) | exact sh_term (by omega) | exact sh_sheet (by omega) | exact sh_items (by omega) | exact sh_sums (by omega)) rfl ?_
    refine wp_iload_n (pc := 20) dX12_addTerm_20 (by first | rfl | assumption | (repeat first | assumption | rfl | refine aG_n ?_ rfl rfl)) ?_
    refine wp_iast (pc := 21) dX12_addTerm_21 (by first | rfl | assumption | exact sh_house (by omega) | exact sh_wish (by omega) | exact sh_wor (by omega) | exact sh_bar (by omega) | exact sh_term (by omega) | exact sh_sheet (by omega) | exact sh_items (by omega) | exact sh_sums (by omega)) (by simp (disch := omega) only [up2_ne, up2_p, h86]; exact vp_in_nI (by omega) (by decide)) ?_
    refine wp_aload_n (pc := 22) dX12_addTerm_22 (by first | rfl | assumption | (repeat first | assumption | rfl | refine aG_n ?_ rfl rfl)) ?_
    refine wp_getR (pc := 23) dX12_addTerm_23 fl_12_86 (by first | rfl | assumption | exact sh_house (by omega) | exact sh_wish (by omega) | exact sh_wor (by omega) | exact sh_bar (by omega) | exact sh_term (by omega) | exact sh_sheet (by omega) | exact sh_items (by omega) | exact sh_sums (by omega)) rfl ?_
    refine wp_aload_n (pc := 26) dX12_addTerm_26 (by first | rfl | assumption | (repeat first | assumption | rfl | refine aG_n ?_ rfl rfl)) ?_
    refine wp_getI (pc := 27) dX12_addTerm_27 fl_12_319 (by first | rfl | assumption | exact sh_house (by omega) | exact sh_wish (by omega) | exact sh_wor (by omega) | exact sh_bar (by omega) | exact sh_term (by omega) | exact sh_sheet (by omega) | exact sh_items (by omega) | exact sh_sums (by omega)) rfl ?_
    refine wp_iload_n (pc := 30) dX12_addTerm_30 (by first | rfl | assumption | (repeat first | assumption | rfl | refine aG_n ?_ rfl rfl)) ?_
    refine wp_iast (pc := 31) dX12_addTerm_31 (by first | rfl | assumption | exact sh_house (by omega) | exact sh_wish (by omega) | exact sh_wor (by omega) | exact sh_bar (by omega) | exact sh_term (by omega) | exact sh_sheet (by omega) | exact sh_items (by omega) | exact sh_sums (by omega)) (by simp (disch := omega) only [up2_ne, up2_p, h86]; exact vp_in_nI (by omega) (by decide)) ?_
    refine wp_aload_n (pc := 32) dX12_addTerm_32 (by first | rfl | assumption | (repeat first | assumption | rfl | refine aG_n ?_ rfl rfl)) ?_
    refine wp_getR (pc := 33) dX12_addTerm_33 fl_12_89 (by first | rfl | assumption | exact sh_house (by omega) | exact sh_wish (by omega) | exact sh_wor (by omega) | exact sh_bar (by omega) | exact sh_term (by omega) | exact sh_sheet (by omega) | exact sh_items (by omega) | exact sh_sums (by omega)) rfl ?_
    refine wp_aload_n (pc := 36) dX12_addTerm_36 (by first | rfl | assumption | (repeat first | assumption | rfl | refine aG_n ?_ rfl rfl)) ?_
    refine wp_getI (pc := 37) dX12_addTerm_37 fl_12_319 (by first | rfl | assumption | exact sh_house (by omega) | exact sh_wish (by omega) | exact sh_wor (by omega) | exact sh_bar (by omega) | exact sh_term (by omega) | exact sh_sheet (by omega) | exact sh_items (by omega) | exact sh_sums (by omega)) rfl ?_
    refine wp_iload_n (pc := 40) dX12_addTerm_40 (by first | rfl | assumption | (repeat first | assumption | rfl | refine aG_n ?_ rfl rfl)) ?_
    refine wp_iast (pc := 41) dX12_addTerm_41 (by first | rfl | assumption | exact sh_house (by omega) | exact sh_wish (by omega) | exact sh_wor (by omega) | exact sh_bar (by omega) | exact sh_term (by omega) | exact sh_sheet (by omega) | exact sh_items (by omega) | exact sh_sums (by omega)) (by simp (disch := omega) only [up2_ne, up2_p, h86]; exact vp_in_nI (by omega) (by decide)) ?_
    refine wp_aload_n (pc := 42) dX12_addTerm_42 (by first | rfl | assumption | (repeat first | assumption | rfl | refine aG_n ?_ rfl rfl)) ?_
    refine wp_getR (pc := 43) dX12_addTerm_43 fl_12_92 (by first | rfl | assumption | exact sh_house (by omega) | exact sh_wish (by omega) | exact sh_wor (by omega) | exact sh_bar (by omega) | exact sh_term (by omega) | exact sh_sheet (by omega) | exact sh_items (by omega) | exact sh_sums (by omega)) rfl ?_
    refine wp_aload_n (pc := 46) dX12_addTerm_46 (by first | rfl | assumption | (repeat first | assumption | rfl | refine aG_n ?_ rfl rfl)) ?_
    refine wp_getI (pc := 47) dX12_addTerm_47 fl_12_319 (by first | rfl | assumption | exact sh_house (by omega) | exact sh_wish (by omega) | exact sh_wor (by omega) | exact sh_bar (by omega) | exact sh_term (by omega) | exact sh_sheet (by omega) | exact sh_items (by omega) | exact sh_sums (by omega)) rfl ?_
    refine wp_iload (pc := 50) dX12_addTerm_50 (by first | rfl | assumption | (repeat first | assumption | rfl | refine aG_n ?_ rfl rfl)) ?_
    refine wp_iast (pc := 52) dX12_addTerm_52 (by first | rfl | assumption | exact sh_house (by omega) | exact sh_wish (by omega) | exact sh_wor (by omega) | exact sh_bar (by omega) | exact sh_term (by omega) | exact sh_sheet (by omega) | exact sh_items (by omega) | exact sh_sums (by omega)) (by simp (disch := omega) only [up2_ne, up2_p, h86]; exact vp_in_nI (by omega) (by decide)) ?_
    refine wp_aload_n (pc := 53) dX12_addTerm_53 (by first | rfl | assumption | (repeat first | assumption | rfl | refine aG_n ?_ rfl rfl)) ?_
    refine wp_getR (pc := 54) dX12_addTerm_54 fl_12_95 (by first | rfl | assumption | exact sh_house (by omega) | exact sh_wish (by omega) | exact sh_wor (by omega) | exact sh_bar (by omega) | exact sh_term (by omega) | exact sh_sheet (by omega) | exact sh_items (by omega) | exact sh_sums (by omega)) rfl ?_
    refine wp_aload_n (pc := 57) dX12_addTerm_57 (by first | rfl | assumption | (repeat first | assumption | rfl | refine aG_n ?_ rfl rfl)) ?_
    refine wp_getI (pc := 58) dX12_addTerm_58 fl_12_319 (by first | rfl | assumption | exact sh_house (by omega) | exact sh_wish (by omega) | exact sh_wor (by omega) | exact sh_bar (by omega) | exact sh_term (by omega) | exact sh_sheet (by omega) | exact sh_items (by omega) | exact sh_sums (by omega)) rfl ?_
    refine wp_iload (pc := 61) dX12_addTerm_61 (by first | rfl | assumption | (repeat first | assumption | rfl | refine aG_n ?_ rfl rfl)) ?_
    refine wp_iast (pc := 63) dX12_addTerm_63 (by first | rfl | assumption | exact sh_house (by omega) | exact sh_wish (by omega) | exact sh_wor (by omega) | exact sh_bar (by omega) | exact sh_term (by omega) | exact sh_sheet (by omega) | exact sh_items (by omega) | exact sh_sums (by omega)) (by simp (disch := omega) only [up2_ne, up2_p, h86]; exact vp_in_nI (by omega) (by decide)) ?_
    refine wp_aload_n (pc := 64) dX12_addTerm_64 (by first | rfl | assumption | (repeat first | assumption | rfl | refine aG_n ?_ rfl rfl)) ?_
    refine wp_getR (pc := 65) dX12_addTerm_65 fl_12_98 (by first | rfl | assumption | exact sh_house (by omega) | exact sh_wish (by omega) | exact sh_wor (by omega) | exact sh_bar (by omega) | exact sh_term (by omega) | exact sh_sheet (by omega) | exact sh_items (by omega) | exact sh_sums (by omega)) rfl ?_
    refine wp_aload_n (pc := 68) dX12_addTerm_68 (by first | rfl | assumption | (repeat first | assumption | rfl | refine aG_n ?_ rfl rfl)) ?_
    refine wp_getI (pc := 69) dX12_addTerm_69 fl_12_319 (by first | rfl | assumption | exact sh_house (by omega) | exact sh_wish (by omega) | exact sh_wor (by omega) | exact sh_bar (by omega) | exact sh_term (by omega) | exact sh_sheet (by omega) | exact sh_items (by omega) | exact sh_sums (by omega)) rfl ?_
    refine wp_iload (pc := 72) dX12_addTerm_72 (by first | rfl | assumption | (repeat first | assumption | rfl | refine aG_n ?_ rfl rfl)) ?_
    refine wp_iast (pc := 74) dX12_addTerm_74 (by first | rfl | assumption | exact sh_house (by omega) | exact sh_wish (by omega) | exact sh_wor (by omega) | exact sh_bar (by omega) | exact sh_term (by omega) | exact sh_sheet (by omega) | exact sh_items (by omega) | exact sh_sums (by omega)) (by simp (disch := omega) only [up2_ne, up2_p, h86]; exact vp_in_nI (by omega) (by decide)) ?_
    refine wp_aload_n (pc := 75) dX12_addTerm_75 (by first | rfl | assumption | (repeat first | assumption | rfl | refine aG_n ?_ rfl rfl)) ?_
    refine wp_getR (pc := 76) dX12_addTerm_76 fl_12_101 (by first | rfl | assumption | exact sh_house (by omega) | exact sh_wish (by omega) | exact sh_wor (by omega) | exact sh_bar (by omega) | exact sh_term (by omega) | exact sh_sheet (by omega) | exact sh_items (by omega) | exact sh_sums (by omega)) rfl ?_
    refine wp_aload_n (pc := 79) dX12_addTerm_79 (by first | rfl | assumption | (repeat first | assumption | rfl | refine aG_n ?_ rfl rfl)) ?_
    refine wp_getI (pc := 80) dX12_addTerm_80 fl_12_319 (by first | rfl | assumption | exact sh_house (by omega) | exact sh_wish (by omega) | exact sh_wor (by omega) | exact sh_bar (by omega) | exact sh_term (by omega) | exact sh_sheet (by omega) | exact sh_items (by omega) | exact sh_sums (by omega)) rfl ?_
    refine wp_bipush (pc := 83) (v := -4) dX12_addTerm_83 (by decide) ?_
    refine wp_iast (pc := 85) dX12_addTerm_85 (by first | rfl | assumption | exact sh_house (by omega) | exact sh_wish (by omega) | exact sh_wor (by omega) | exact sh_bar (by omega) | exact sh_term (by omega) | exact sh_sheet (by omega) | exact sh_items (by omega) | exact sh_sums (by omega)) (by simp (disch := omega) only [up2_ne, up2_p, h86]; exact vp_in_nI (by omega) (by decide)) ?_
    refine wp_aload_n (pc := 86) dX12_addTerm_86 (by first | rfl | assumption | (repeat first | assumption | rfl | refine aG_n ?_ rfl rfl)) ?_
    refine wp_dupr (pc := 87) dX12_addTerm_87 ?_
    refine wp_getI (pc := 88) dX12_addTerm_88 fl_12_319 (by first | rfl | assumption | exact sh_house (by omega) | exact sh_wish (by omega) | exact sh_wor (by omega) | exact sh_bar (by omega) | exact sh_term (by omega) | exact sh_sheet (by omega) | exact sh_items (by omega) | exact sh_sums (by omega)) rfl ?_
    refine wp_iconst (pc := 91) (v := 1) dX12_addTerm_91 (by decide) ?_
    refine wp_iadd (pc := 92) dX12_addTerm_92 ?_
    refine wp_putI (pc := 93) dX12_addTerm_93 fl_12_319 (by first | rfl | assumption | exact sh_house (by omega) | exact sh_wish (by omega) | exact sh_wor (by omega) | exact sh_bar (by omega) | exact sh_term (by omega) | exact sh_sheet (by omega) | exact sh_items (by omega) | exact sh_sums (by omega)) rfl rfl rfl ?_
    refine wp_aload_n (pc := 96) dX12_addTerm_96 (by first | rfl | assumption | (repeat first | assumption | rfl | refine aG_n ?_ rfl rfl)) ?_
    refine wp_getI (pc := 97) dX12_addTerm_97 fl_12_319 (by first | rfl | assumption | exact sh_house (by omega) | exact sh_wish (by omega) | exact sh_wor (by omega) | exact sh_bar (by omega) | exact sh_term (by omega) | exact sh_sheet (by omega) | exact sh_items (by omega) | exact sh_sums (by omega)) rfl ?_
    refine wp_iconst (pc := 100) (v := 1) dX12_addTerm_100 (by decide) ?_
    refine wp_isub (pc := 101) dX12_addTerm_101 ?_
    refine wp_ireturn (pc := 102) dX12_addTerm_102 rfl (by first | rfl | decide | assumption) ?_
    refine qEq ?_ (mEq ?_ (k1 (by omega)))
    · simp (disch := omega) only [up2_ne, up2_p, up2_at, h86, nI_1, nI_back]
    · unfold ledM
      simp (disch := omega) only [up2_ne, up2_p, up2_at, h86, nI_1, nI_clamp]
/-- a new TERM keeps the books -/
theorem led_add {M : MM} {n : Nat} {kd a b c ab wi : Int32} (hL : I_led M) (h86 : M 86 37 = nI n) (hn : n < 16) (v1 : inR kd 0 3) (v2 : inR a 0 3) (v3 : inR b 0 3) (v4 : inR c 0 999) (v5 : kd = 0 → inR ab 0 9999) (v6 : kd = 1 ∨ kd = 3 → inR ab 0 9) (v7 : kd = 2 → ∃ q, q < n ∧ ab = nI q) (v8 : inR wi 0 999) : I_led (ledM (ledC M n kd a b c ab wi) n kd a b c ab wi) := by
  obtain ⟨⟨n', a1, a2, a3, a4, a5⟩, a6⟩ := hL
  obtain rfl : n' = n := (nI_eq (by omega) (by omega)).mp (a3.symm.trans h86)
  refine ⟨⟨n' + 1, by omega, ?_, ?_, fun i hi => ?_, fun i hi hj => ?_⟩, fun e he => ?_⟩
  · simp (disch := omega) only [ledM, ledC, up2_ne, up2_p, up2_at]
  · simp (disch := omega) only [ledM, ledC, up2_ne, up2_p, up2_at]
  · by_cases e : i = n'
    · subst e
      simp (disch := omega) only [ledM, ledC, up2_ne, up2_p, up2_at]
      obtain ⟨p, hp, ep⟩ := inR_of (n := 3) v2
      obtain ⟨q, hq, eq⟩ := inR_of (n := 3) v3
      exact ⟨⟨trivial, trivial, trivial, trivial, trivial, trivial⟩, v1, ⟨p, by omega, ep⟩, ⟨q, by omega, eq⟩, v4, v5, v6, v7, v8, Or.inl ⟨a5 i (Nat.le_refl _) hn, trivial⟩⟩
    · simp (disch := omega) only [ledM, ledC, up2_ne, up2_p, up2_at]
      exact a4 i (by omega)
  · simp (disch := omega) only [ledM, ledC, up2_ne, up2_p, up2_at]
    exact a5 i (by omega) hj
  · simp (disch := omega) only [ledM, ledC, up2_ne, up2_p, up2_at]
    exact a6 e he
end LED
def inT (t : Int32) (n : Nat) : Prop := 0 ≤ t.toInt ∧ t.toInt < n
theorem inT_of {t : Int32} {n : Nat} (h : inT t n) : ∃ q, q < n ∧ t = nI q := by
  obtain ⟨h1, h2⟩ := h
  obtain ⟨j, hj, rfl⟩ := inR_of (v := t) (n := n - 1) ⟨h1, by omega⟩
  exact ⟨j, by omega, rfl⟩
section LED2
variable {X : aX} {μ : Mm} {Q : Option Value → Mm → Prop}
theorem c_X2_hasTerm {n : Nat} {t : Int32} (hn : n ≤ 16) (h31 : μ.1 31 2 = nI n) (kt : inT t n → Q (some (.int 1)) μ) (kf : ¬ inT t n → Q (some (.int 0)) μ) : WP X mX2_hasTerm 0 (lv_args 0 [.ref 31, .int t]) [] μ Q := by
  have e31 : (μ.1 31 2).toInt = n := by rw [h31]; exact nI_toInt (by omega)
  have z0 := z_0
  have z16 := z_16
  refine wp_iload_n (pc := 0) dX2_hasTerm_0 (by first | rfl | assumption | (repeat first | assumption | rfl | refine aG_n ?_ rfl rfl)) ?_
  refine wp_if_lt (pc := 1) (tgt := 22) dX2_hasTerm_1 rfl (fun c1_1 => ?_) (fun c1_1 => ?_)
  · refine wp_iconst (pc := 22) (v := 0) dX2_hasTerm_22 (by decide) ?_
    refine wp_ireturn (pc := 23) dX2_hasTerm_23 rfl (by first | rfl | decide | assumption) ?_
    exact kf (by clear kt kf; simp only [i_lt, i_le, inT] at *; omega)
  · refine wp_iload_n (pc := 4) dX2_hasTerm_4 (by first | rfl | assumption | (repeat first | assumption | rfl | refine aG_n ?_ rfl rfl)) ?_
    refine wp_aload_n (pc := 5) dX2_hasTerm_5 (by first | rfl | assumption | (repeat first | assumption | rfl | refine aG_n ?_ rfl rfl)) ?_
    refine wp_getI (pc := 6) dX2_hasTerm_6 fl_2_28 (by first | rfl | assumption | exact sh_house (by omega) | exact sh_wish (by omega) | exact sh_wor (by omega) | exact sh_bar (by omega) | exact sh_term (by omega) | exact sh_sheet (by omega) | exact sh_items (by omega) | exact sh_sums (by omega)) rfl ?_
    refine wp_icmp_ge (pc := 9) (tgt := 22) dX2_hasTerm_9 rfl (fun c9_2 => ?_) (fun c9_2 => ?_)
    · refine wp_iconst (pc := 22) (v := 0) dX2_hasTerm_22 (by decide) ?_
      refine wp_ireturn (pc := 23) dX2_hasTerm_23 rfl (by first | rfl | decide | assumption) ?_
      exact kf (by clear kt kf; simp only [i_lt, i_le, inT] at *; omega)
    · refine wp_iload_n (pc := 12) dX2_hasTerm_12 (by first | rfl | assumption | (repeat first | assumption | rfl | refine aG_n ?_ rfl rfl)) ?_
      refine wp_bipush (pc := 13) (v := 16) dX2_hasTerm_13 (by decide) ?_
      refine wp_icmp_ge (pc := 15) (tgt := 22) dX2_hasTerm_15 rfl (fun c15_3 => ?_) (fun c15_3 => ?_)
      · refine wp_iconst (pc := 22) (v := 0) dX2_hasTerm_22 (by decide) ?_
        refine wp_ireturn (pc := 23) dX2_hasTerm_23 rfl (by first | rfl | decide | assumption) ?_
        exact kf (by clear kt kf; simp only [i_lt, i_le, inT] at *; omega)
      · refine wp_iconst (pc := 18) (v := 1) dX2_hasTerm_18 (by decide) ?_
        refine wp_goto (pc := 19) (tgt := 23) dX2_hasTerm_19 rfl ?_
        refine wp_ireturn (pc := 23) dX2_hasTerm_23 rfl (by first | rfl | decide | assumption) ?_
        exact kt (by clear kt kf; simp only [i_lt, i_le, inT] at *; omega)
theorem in_term {n : Nat} {x t : Int32} (hn : n ≤ 16) (h : x = nI n) : ((0 : Int64).toInt ≤ t.toInt64.toInt ∧ t.toInt64.toInt ≤ (x - 1).toInt64.toInt) ↔ inT t n := by
  rw [w_int, w_int, h]
  have e : (nI n - 1).toInt = (n : Int) - 1 := by
    rw [show (1 : Int32) = nI 1 from rfl]
    exact pk_sub_toInt (by omega) (by omega)
  rw [e]
  unfold inT
  have : (0 : Int64).toInt = 0 := by decide
  omega
theorem c_X12_isTerm {n : Nat} {t : Int32} (hn : n ≤ 16) (h86 : μ.1 86 37 = nI n) (kt : inT t n → Q (some (.int 1)) μ) (kf : ¬ inT t n → Q (some (.int 0)) μ) : WP X mX12_isTerm 0 (lv_args 0 [.ref 86, .int t]) [] μ Q := by
  refine wp_iload_n (pc := 0) dX12_isTerm_0 (by first | rfl | assumption | (repeat first | assumption | rfl | refine aG_n ?_ rfl rfl)) ?_
  refine wp_i2l (pc := 1) dX12_isTerm_1 ?_
  refine wp_lconst (pc := 2) (v := 0) dX12_isTerm_2 (by decide) ?_
  refine wp_aload_n (pc := 3) dX12_isTerm_3 (by first | rfl | assumption | (repeat first | assumption | rfl | refine aG_n ?_ rfl rfl)) ?_
  refine wp_getI (pc := 4) dX12_isTerm_4 fl_12_319 (by first | rfl | assumption | exact sh_house (by omega) | exact sh_wish (by omega) | exact sh_wor (by omega) | exact sh_bar (by omega) | exact sh_term (by omega) | exact sh_sheet (by omega) | exact sh_items (by omega) | exact sh_sums (by omega)) rfl ?_
  refine wp_iconst (pc := 7) (v := 1) dX12_isTerm_7 (by decide) ?_
  refine wp_isub (pc := 8) dX12_isTerm_8 ?_
  refine wp_i2l (pc := 9) dX12_isTerm_9 ?_
  refine wp_cS (pc := 10) dX12_isTerm_10 lk_12_133 rfl rfl rfl (c_X12_in (fun c10_1 => aK_i ?_) (fun c10_1 => aK_i ?_))
  · refine wp_ireturn (pc := 13) dX12_isTerm_13 rfl (by first | rfl | decide | assumption) ?_
    exact kt ((in_term hn h86).mp ‹_›)
  · refine wp_ireturn (pc := 13) dX12_isTerm_13 rfl (by first | rfl | decide | assumption) ?_
    exact kf (fun z => absurd ((in_term hn h86).mpr z) ‹_›)
end LED2

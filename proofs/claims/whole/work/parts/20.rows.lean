section ROWS
variable {X : aX} {μ : Mm} {Q : Option Value → Mm → Prop}
theorem c_X5_sum {a b : Int32} (k : Q (some (.int (sm2 a b))) μ) : WP X mX5_sum 0 (lv_args 0 [.int a, .int b]) [] μ Q := by
  refine wp_bipush (pc := 0) (v := 37) dX5_sum_0 (by decide) ?_
  refine wp_iload_n (pc := 2) dX5_sum_2 (by first | rfl | assumption | (repeat first | assumption | rfl | refine aG_n ?_ rfl rfl)) ?_
  refine wp_imul (pc := 3) dX5_sum_3 ?_
  refine wp_bipush (pc := 4) (v := 101) dX5_sum_4 (by decide) ?_
  refine wp_iload_n (pc := 6) dX5_sum_6 (by first | rfl | assumption | (repeat first | assumption | rfl | refine aG_n ?_ rfl rfl)) ?_
  refine wp_imul (pc := 7) dX5_sum_7 ?_
  refine wp_iadd (pc := 8) dX5_sum_8 ?_
  refine wp_bipush (pc := 9) (v := 13) dX5_sum_9 (by decide) ?_
  refine wp_iadd (pc := 11) dX5_sum_11 ?_
  refine wp_sipush (pc := 12) (v := 9973) dX5_sum_12 (by decide) ?_
  refine wp_irem (pc := 15) dX5_sum_15 (by decide) ?_
  refine wp_ireturn (pc := 16) dX5_sum_16 rfl (by first | rfl | decide | assumption) ?_
  exact k
theorem c_X12_sumOf {a b : Int32} (k : Q (some (.int (sm2 a b))) μ) : WP X mX12_sumOf 0 (lv_args 0 [.int a, .int b]) [] μ Q := by
  refine wp_bipush (pc := 0) (v := 37) dX12_sumOf_0 (by decide) ?_
  refine wp_iload_n (pc := 2) dX12_sumOf_2 (by first | rfl | assumption | (repeat first | assumption | rfl | refine aG_n ?_ rfl rfl)) ?_
  refine wp_imul (pc := 3) dX12_sumOf_3 ?_
  refine wp_bipush (pc := 4) (v := 101) dX12_sumOf_4 (by decide) ?_
  refine wp_iload_n (pc := 6) dX12_sumOf_6 (by first | rfl | assumption | (repeat first | assumption | rfl | refine aG_n ?_ rfl rfl)) ?_
  refine wp_imul (pc := 7) dX12_sumOf_7 ?_
  refine wp_iadd (pc := 8) dX12_sumOf_8 ?_
  refine wp_bipush (pc := 9) (v := 13) dX12_sumOf_9 (by decide) ?_
  refine wp_iadd (pc := 11) dX12_sumOf_11 ?_
  refine wp_sipush (pc := 12) (v := 9973) dX12_sumOf_12 (by decide) ?_
  refine wp_irem (pc := 15) dX12_sumOf_15 (by decide) ?_
  refine wp_ireturn (pc := 16) dX12_sumOf_16 rfl (by first | rfl | decide | assumption) ?_
  exact k
end ROWS
theorem J_row (i v : Int32) : Jnt mX11_row mX12_row [.int i, .int v] := by
  intro X μ Q hI k
  have hR := hI.2.2.2.2.2.2.2.1
  by_cases c1 : inR i 0 7
  · by_cases c2 : inR v 0 999
    · obtain ⟨j, hj, rfl⟩ := inR_of (n := 7) c1
      match j, hj with
      | 0, _ =>
        refine wp_iload_n (pc := 0) dX11_row_0 (by first | rfl | assumption | (repeat first | assumption | rfl | refine aG_n ?_ rfl rfl)) ?_
        refine wp_iconst (pc := 1) (v := 0) dX11_row_1 (by decide) ?_
        refine wp_bipush (pc := 2) (v := 7) dX11_row_2 (by decide) ?_
        refine wp_cS (pc := 4) dX11_row_4 lk_11_112 rfl rfl rfl (c_X11_isWithin (fun _ => aK_i ?_) (fun q => absurd c1 q))
        refine wp_if_eq (pc := 7) (tgt := 21) dX11_row_7 rfl (fun q => absurd q (by decide)) (fun _ => ?_)
        refine wp_iload_n (pc := 10) dX11_row_10 (by first | rfl | assumption | (repeat first | assumption | rfl | refine aG_n ?_ rfl rfl)) ?_
        refine wp_iconst (pc := 11) (v := 0) dX11_row_11 (by decide) ?_
        refine wp_sipush (pc := 12) (v := 999) dX11_row_12 (by decide) ?_
        refine wp_cS (pc := 15) dX11_row_15 lk_11_112 rfl rfl rfl (c_X11_isWithin (fun _ => aK_i ?_) (fun q => absurd c2 q))
        refine wp_if_ne (pc := 18) (tgt := 23) dX11_row_18 rfl (fun _ => ?_) (fun q => absurd q (by decide))
        refine wp_aload_n (pc := 23) dX11_row_23 (by first | rfl | assumption | (repeat first | assumption | rfl | refine aG_n ?_ rfl rfl)) ?_
        refine wp_getR (pc := 24) dX11_row_24 fl_11_60 (by first | rfl | assumption | exact sh_house (by omega) | exact sh_wish (by omega) | exact sh_wor (by omega) | exact sh_bar (by omega) | exact sh_term (by omega) | exact sh_sheet (by omega) | exact sh_items (by omega) | exact sh_sums (by omega)) rfl ?_
        refine wp_iload_n (pc := 27) dX11_row_27 (by first | rfl | assumption | (repeat first | assumption | rfl | refine aG_n ?_ rfl rfl)) ?_
        refine wp_iload_n (pc := 28) dX11_row_28 (by first | rfl | assumption | (repeat first | assumption | rfl | refine aG_n ?_ rfl rfl)) ?_
        refine wp_cV (pc := 29) dX11_row_29 lk_11_346 rfl (by decide) rfl (by first | rfl | assumption | exact sh_house (by omega) | exact sh_wish (by omega) | exact sh_wor (by omega) | exact sh_bar (by omega) | exact sh_term (by omega) | exact sh_sheet (by omega) | exact sh_items (by omega) | exact sh_sums (by omega)) rfl rfl ?_
        refine wp_aload_n (pc := 0) dX5_put_0 (by first | rfl | assumption | (repeat first | assumption | rfl | refine aG_n ?_ rfl rfl)) ?_
        refine wp_getR (pc := 1) dX5_put_1 fl_5_9 (by first | rfl | assumption | exact sh_house (by omega) | exact sh_wish (by omega) | exact sh_wor (by omega) | exact sh_bar (by omega) | exact sh_term (by omega) | exact sh_sheet (by omega) | exact sh_items (by omega) | exact sh_sums (by omega)) rfl ?_
        refine wp_bipush (pc := 4) (v := 8) dX5_put_4 (by decide) ?_
        refine wp_iload_n (pc := 6) dX5_put_6 (by first | rfl | assumption | (repeat first | assumption | rfl | refine aG_n ?_ rfl rfl)) ?_
        refine wp_iadd (pc := 7) dX5_put_7 ?_
        refine wp_ialdC (pc := 8) (j := 8) dX5_put_8 (by first | rfl | assumption | exact sh_house (by omega) | exact sh_wish (by omega) | exact sh_wor (by omega) | exact sh_bar (by omega) | exact sh_term (by omega) | exact sh_sheet (by omega) | exact sh_items (by omega) | exact sh_sums (by omega)) (by decide) (by decide) ?_
        refine wp_istore_n (pc := 9) dX5_put_9 (by decide) ?_
        refine wp_aload_n (pc := 10) dX5_put_10 (by first | rfl | assumption | (repeat first | assumption | rfl | refine aG_n ?_ rfl rfl)) ?_
        refine wp_getR (pc := 11) dX5_put_11 fl_5_9 (by first | rfl | assumption | exact sh_house (by omega) | exact sh_wish (by omega) | exact sh_wor (by omega) | exact sh_bar (by omega) | exact sh_term (by omega) | exact sh_sheet (by omega) | exact sh_items (by omega) | exact sh_sums (by omega)) rfl ?_
        refine wp_bipush (pc := 14) (v := 8) dX5_put_14 (by decide) ?_
        refine wp_iload_n (pc := 16) dX5_put_16 (by first | rfl | assumption | (repeat first | assumption | rfl | refine aG_n ?_ rfl rfl)) ?_
        refine wp_iadd (pc := 17) dX5_put_17 ?_
        refine wp_iload_n (pc := 18) dX5_put_18 (by first | rfl | assumption | (repeat first | assumption | rfl | refine aG_n ?_ rfl rfl)) ?_
        refine wp_iastC (pc := 19) (j := 8) dX5_put_19 (by first | rfl | assumption | exact sh_house (by omega) | exact sh_wish (by omega) | exact sh_wor (by omega) | exact sh_bar (by omega) | exact sh_term (by omega) | exact sh_sheet (by omega) | exact sh_items (by omega) | exact sh_sums (by omega)) (by decide) (by decide) ?_
        refine wp_bipush (pc := 20) (v := 8) dX5_put_20 (by decide) ?_
        refine wp_iload_n (pc := 22) dX5_put_22 (by first | rfl | assumption | (repeat first | assumption | rfl | refine aG_n ?_ rfl rfl)) ?_
        refine wp_iadd (pc := 23) dX5_put_23 ?_
        refine wp_iconst (pc := 24) (v := 2) dX5_put_24 (by decide) ?_
        refine wp_idiv (pc := 25) dX5_put_25 (by decide) ?_
        refine wp_istore (pc := 26) dX5_put_26 (by decide) ?_
        refine wp_iload (pc := 28) dX5_put_28 (by first | rfl | assumption | (repeat first | assumption | rfl | refine aG_n ?_ rfl rfl)) ?_
        refine wp_if_le (pc := 30) (tgt := 72) dX5_put_30 rfl (fun q => absurd q (by decide)) (fun _ => ?_)
        refine wp_aload_n (pc := 33) dX5_put_33 (by first | rfl | assumption | (repeat first | assumption | rfl | refine aG_n ?_ rfl rfl)) ?_
        refine wp_getR (pc := 34) dX5_put_34 fl_5_9 (by first | rfl | assumption | exact sh_house (by omega) | exact sh_wish (by omega) | exact sh_wor (by omega) | exact sh_bar (by omega) | exact sh_term (by omega) | exact sh_sheet (by omega) | exact sh_items (by omega) | exact sh_sums (by omega)) rfl ?_
        refine wp_iload (pc := 37) dX5_put_37 (by first | rfl | assumption | (repeat first | assumption | rfl | refine aG_n ?_ rfl rfl)) ?_
        refine wp_aload_n (pc := 39) dX5_put_39 (by first | rfl | assumption | (repeat first | assumption | rfl | refine aG_n ?_ rfl rfl)) ?_
        refine wp_getR (pc := 40) dX5_put_40 fl_5_9 (by first | rfl | assumption | exact sh_house (by omega) | exact sh_wish (by omega) | exact sh_wor (by omega) | exact sh_bar (by omega) | exact sh_term (by omega) | exact sh_sheet (by omega) | exact sh_items (by omega) | exact sh_sums (by omega)) rfl ?_
        refine wp_iconst (pc := 43) (v := 2) dX5_put_43 (by decide) ?_
        refine wp_iload (pc := 44) dX5_put_44 (by first | rfl | assumption | (repeat first | assumption | rfl | refine aG_n ?_ rfl rfl)) ?_
        refine wp_imul (pc := 46) dX5_put_46 ?_
        refine wp_ialdC (pc := 47) (j := 8) dX5_put_47 (by first | rfl | assumption | exact sh_house (by omega) | exact sh_wish (by omega) | exact sh_wor (by omega) | exact sh_bar (by omega) | exact sh_term (by omega) | exact sh_sheet (by omega) | exact sh_items (by omega) | exact sh_sums (by omega)) (by decide) (by decide) ?_
        refine wp_aload_n (pc := 48) dX5_put_48 (by first | rfl | assumption | (repeat first | assumption | rfl | refine aG_n ?_ rfl rfl)) ?_
        refine wp_getR (pc := 49) dX5_put_49 fl_5_9 (by first | rfl | assumption | exact sh_house (by omega) | exact sh_wish (by omega) | exact sh_wor (by omega) | exact sh_bar (by omega) | exact sh_term (by omega) | exact sh_sheet (by omega) | exact sh_items (by omega) | exact sh_sums (by omega)) rfl ?_
        refine wp_iconst (pc := 52) (v := 2) dX5_put_52 (by decide) ?_
        refine wp_iload (pc := 53) dX5_put_53 (by first | rfl | assumption | (repeat first | assumption | rfl | refine aG_n ?_ rfl rfl)) ?_
        refine wp_imul (pc := 55) dX5_put_55 ?_
        refine wp_iconst (pc := 56) (v := 1) dX5_put_56 (by decide) ?_
        refine wp_iadd (pc := 57) dX5_put_57 ?_
        refine wp_ialdC (pc := 58) (j := 9) dX5_put_58 (by first | rfl | assumption | exact sh_house (by omega) | exact sh_wish (by omega) | exact sh_wor (by omega) | exact sh_bar (by omega) | exact sh_term (by omega) | exact sh_sheet (by omega) | exact sh_items (by omega) | exact sh_sums (by omega)) (by decide) (by decide) ?_
        refine wp_cS (pc := 59) dX5_put_59 lk_5_13 rfl rfl rfl (c_X5_sum (aK_i ?_))
        refine wp_iastC (pc := 62) (j := 4) dX5_put_62 (by first | rfl | assumption | exact sh_house (by omega) | exact sh_wish (by omega) | exact sh_wor (by omega) | exact sh_bar (by omega) | exact sh_term (by omega) | exact sh_sheet (by omega) | exact sh_items (by omega) | exact sh_sums (by omega)) (by decide) (by decide) ?_
        refine wp_iload (pc := 63) dX5_put_63 (by first | rfl | assumption | (repeat first | assumption | rfl | refine aG_n ?_ rfl rfl)) ?_
        refine wp_iconst (pc := 65) (v := 2) dX5_put_65 (by decide) ?_
        refine wp_idiv (pc := 66) dX5_put_66 (by decide) ?_
        refine wp_istore (pc := 67) dX5_put_67 (by decide) ?_
        refine wp_goto (pc := 69) (tgt := 28) dX5_put_69 rfl ?_
        refine wp_iload (pc := 28) dX5_put_28 (by first | rfl | assumption | (repeat first | assumption | rfl | refine aG_n ?_ rfl rfl)) ?_
        refine wp_if_le (pc := 30) (tgt := 72) dX5_put_30 rfl (fun q => absurd q (by decide)) (fun _ => ?_)
        refine wp_aload_n (pc := 33) dX5_put_33 (by first | rfl | assumption | (repeat first | assumption | rfl | refine aG_n ?_ rfl rfl)) ?_
        refine wp_getR (pc := 34) dX5_put_34 fl_5_9 (by first | rfl | assumption | exact sh_house (by omega) | exact sh_wish (by omega) | exact sh_wor (by omega) | exact sh_bar (by omega) | exact sh_term (by omega) | exact sh_sheet (by omega) | exact sh_items (by omega) | exact sh_sums (by omega)) rfl ?_
        refine wp_iload (pc := 37) dX5_put_37 (by first | rfl | assumption | (repeat first | assumption | rfl | refine aG_n ?_ rfl rfl)) ?_
        refine wp_aload_n (pc := 39) dX5_put_39 (by first | rfl | assumption | (repeat first | assumption | rfl | refine aG_n ?_ rfl rfl)) ?_
        refine wp_getR (pc := 40) dX5_put_40 fl_5_9 (by first | rfl | assumption | exact sh_house (by omega) | exact sh_wish (by omega) | exact sh_wor (by omega) | exact sh_bar (by omega) | exact sh_term (by omega) | exact sh_sheet (by omega) | exact sh_items (by omega) | exact sh_sums (by omega)) rfl ?_
        refine wp_iconst (pc := 43) (v := 2) dX5_put_43 (by decide) ?_
        refine wp_iload (pc := 44) dX5_put_44 (by first | rfl | assumption | (repeat first | assumption | rfl | refine aG_n ?_ rfl rfl)) ?_
        refine wp_imul (pc := 46) dX5_put_46 ?_
        refine wp_ialdC (pc := 47) (j := 4) dX5_put_47 (by first | rfl | assumption | exact sh_house (by omega) | exact sh_wish (by omega) | exact sh_wor (by omega) | exact sh_bar (by omega) | exact sh_term (by omega) | exact sh_sheet (by omega) | exact sh_items (by omega) | exact sh_sums (by omega)) (by decide) (by decide) ?_
        refine wp_aload_n (pc := 48) dX5_put_48 (by first | rfl | assumption | (repeat first | assumption | rfl | refine aG_n ?_ rfl rfl)) ?_
        refine wp_getR (pc := 49) dX5_put_49 fl_5_9 (by first | rfl | assumption | exact sh_house (by omega) | exact sh_wish (by omega) | exact sh_wor (by omega) | exact sh_bar (by omega) | exact sh_term (by omega) | exact sh_sheet (by omega) | exact sh_items (by omega) | exact sh_sums (by omega)) rfl ?_
        refine wp_iconst (pc := 52) (v := 2) dX5_put_52 (by decide) ?_
        refine wp_iload (pc := 53) dX5_put_53 (by first | rfl | assumption | (repeat first | assumption | rfl | refine aG_n ?_ rfl rfl)) ?_
        refine wp_imul (pc := 55) dX5_put_55 ?_
        refine wp_iconst (pc := 56) (v := 1) dX5_put_56 (by decide) ?_
        refine wp_iadd (pc := 57) dX5_put_57 ?_
        refine wp_ialdC (pc := 58) (j := 5) dX5_put_58 (by first | rfl | assumption | exact sh_house (by omega) | exact sh_wish (by omega) | exact sh_wor (by omega) | exact sh_bar (by omega) | exact sh_term (by omega) | exact sh_sheet (by omega) | exact sh_items (by omega) | exact sh_sums (by omega)) (by decide) (by decide) ?_
        refine wp_cS (pc := 59) dX5_put_59 lk_5_13 rfl rfl rfl (c_X5_sum (aK_i ?_))
        refine wp_iastC (pc := 62) (j := 2) dX5_put_62 (by first | rfl | assumption | exact sh_house (by omega) | exact sh_wish (by omega) | exact sh_wor (by omega) | exact sh_bar (by omega) | exact sh_term (by omega) | exact sh_sheet (by omega) | exact sh_items (by omega) | exact sh_sums (by omega)) (by decide) (by decide) ?_
        refine wp_iload (pc := 63) dX5_put_63 (by first | rfl | assumption | (repeat first | assumption | rfl | refine aG_n ?_ rfl rfl)) ?_
        refine wp_iconst (pc := 65) (v := 2) dX5_put_65 (by decide) ?_
        refine wp_idiv (pc := 66) dX5_put_66 (by decide) ?_
        refine wp_istore (pc := 67) dX5_put_67 (by decide) ?_
        refine wp_goto (pc := 69) (tgt := 28) dX5_put_69 rfl ?_
        refine wp_iload (pc := 28) dX5_put_28 (by first | rfl | assumption | (repeat first | assumption | rfl | refine aG_n ?_ rfl rfl)) ?_
        refine wp_if_le (pc := 30) (tgt := 72) dX5_put_30 rfl (fun q => absurd q (by decide)) (fun _ => ?_)
        refine wp_aload_n (pc := 33) dX5_put_33 (by first | rfl | assumption | (repeat first | assumption | rfl | refine aG_n ?_ rfl rfl)) ?_
        refine wp_getR (pc := 34) dX5_put_34 fl_5_9 (by first | rfl | assumption | exact sh_house (by omega) | exact sh_wish (by omega) | exact sh_wor (by omega) | exact sh_bar (by omega) | exact sh_term (by omega) | exact sh_sheet (by omega) | exact sh_items (by omega) | exact sh_sums (by omega)) rfl ?_
        refine wp_iload (pc := 37) dX5_put_37 (by first | rfl | assumption | (repeat first | assumption | rfl | refine aG_n ?_ rfl rfl)) ?_
        refine wp_aload_n (pc := 39) dX5_put_39 (by first | rfl | assumption | (repeat first | assumption | rfl | refine aG_n ?_ rfl rfl)) ?_
        refine wp_getR (pc := 40) dX5_put_40 fl_5_9 (by first | rfl | assumption | exact sh_house (by omega) | exact sh_wish (by omega) | exact sh_wor (by omega) | exact sh_bar (by omega) | exact sh_term (by omega) | exact sh_sheet (by omega) | exact sh_items (by omega) | exact sh_sums (by omega)) rfl ?_
        refine wp_iconst (pc := 43) (v := 2) dX5_put_43 (by decide) ?_
        refine wp_iload (pc := 44) dX5_put_44 (by first | rfl | assumption | (repeat first | assumption | rfl | refine aG_n ?_ rfl rfl)) ?_
        refine wp_imul (pc := 46) dX5_put_46 ?_
        refine wp_ialdC (pc := 47) (j := 2) dX5_put_47 (by first | rfl | assumption | exact sh_house (by omega) | exact sh_wish (by omega) | exact sh_wor (by omega) | exact sh_bar (by omega) | exact sh_term (by omega) | exact sh_sheet (by omega) | exact sh_items (by omega) | exact sh_sums (by omega)) (by decide) (by decide) ?_
        refine wp_aload_n (pc := 48) dX5_put_48 (by first | rfl | assumption | (repeat first | assumption | rfl | refine aG_n ?_ rfl rfl)) ?_
        refine wp_getR (pc := 49) dX5_put_49 fl_5_9 (by first | rfl | assumption | exact sh_house (by omega) | exact sh_wish (by omega) | exact sh_wor (by omega) | exact sh_bar (by omega) | exact sh_term (by omega) | exact sh_sheet (by omega) | exact sh_items (by omega) | exact sh_sums (by omega)) rfl ?_
        refine wp_iconst (pc := 52) (v := 2) dX5_put_52 (by decide) ?_
        refine wp_iload (pc := 53) dX5_put_53 (by first | rfl | assumption | (repeat first | assumption | rfl | refine aG_n ?_ rfl rfl)) ?_
        refine wp_imul (pc := 55) dX5_put_55 ?_
        refine wp_iconst (pc := 56) (v := 1) dX5_put_56 (by decide) ?_
        refine wp_iadd (pc := 57) dX5_put_57 ?_
        refine wp_ialdC (pc := 58) (j := 3) dX5_put_58 (by first | rfl | assumption | exact sh_house (by omega) | exact sh_wish (by omega) | exact sh_wor (by omega) | exact sh_bar (by omega) | exact sh_term (by omega) | exact sh_sheet (by omega) | exact sh_items (by omega) | exact sh_sums (by omega)) (by decide) (by decide) ?_
        refine wp_cS (pc := 59) dX5_put_59 lk_5_13 rfl rfl rfl (c_X5_sum (aK_i ?_))
        refine wp_iastC (pc := 62) (j := 1) dX5_put_62 (by first | rfl | assumption | exact sh_house (by omega) | exact sh_wish (by omega) | exact sh_wor (by omega) | exact sh_bar (by omega) | exact sh_term (by omega) | exact sh_sheet (by omega) | exact sh_items (by omega) | exact sh_sums (by omega)) (by decide) (by decide) ?_
        refine wp_iload (pc := 63) dX5_put_63 (by first | rfl | assumption | (repeat first | assumption | rfl | refine aG_n ?_ rfl rfl)) ?_
        refine wp_iconst (pc := 65) (v := 2) dX5_put_65 (by decide) ?_
        refine wp_idiv (pc := 66) dX5_put_66 (by decide) ?_
        refine wp_istore (pc := 67) dX5_put_67 (by decide) ?_
        refine wp_goto (pc := 69) (tgt := 28) dX5_put_69 rfl ?_
        refine wp_iload (pc := 28) dX5_put_28 (by first | rfl | assumption | (repeat first | assumption | rfl | refine aG_n ?_ rfl rfl)) ?_
        refine wp_if_le (pc := 30) (tgt := 72) dX5_put_30 rfl (fun _ => ?_) (fun q => absurd q (by decide))
        refine wp_iload_n (pc := 72) dX5_put_72 (by first | rfl | assumption | (repeat first | assumption | rfl | refine aG_n ?_ rfl rfl)) ?_
        refine wp_iretK (pc := 73) dX5_put_73 rfl (by first | rfl | decide | assumption) ?_
        refine wp_ireturn (pc := 32) dX11_row_32 rfl (by first | rfl | decide | assumption) ?_
        refine k _ _ (fun Q' k' => ?_)
        refine wp_iload_n (pc := 0) dX12_row_0 (by first | rfl | assumption | (repeat first | assumption | rfl | refine aG_n ?_ rfl rfl)) ?_
        refine wp_i2l (pc := 1) dX12_row_1 ?_
        refine wp_lconst (pc := 2) (v := 0) dX12_row_2 (by decide) ?_
        refine wp_ldc2 (pc := 3) dX12_row_3 cl_12_347 ?_
        refine wp_cS (pc := 6) dX12_row_6 lk_12_133 rfl rfl rfl (c_X12_in (fun _ => aK_i ?_) (fun q => absurd (by rw [w_int]; exact c1) q))
        refine wp_if_eq (pc := 9) (tgt := 24) dX12_row_9 rfl (fun q => absurd q (by decide)) (fun _ => ?_)
        refine wp_iload_n (pc := 12) dX12_row_12 (by first | rfl | assumption | (repeat first | assumption | rfl | refine aG_n ?_ rfl rfl)) ?_
        refine wp_i2l (pc := 13) dX12_row_13 ?_
        refine wp_lconst (pc := 14) (v := 0) dX12_row_14 (by decide) ?_
        refine wp_ldc2 (pc := 15) dX12_row_15 cl_12_216 ?_
        refine wp_cS (pc := 18) dX12_row_18 lk_12_133 rfl rfl rfl (c_X12_in (fun _ => aK_i ?_) (fun q => absurd (by rw [w_int]; exact c2) q))
        refine wp_if_ne (pc := 21) (tgt := 26) dX12_row_21 rfl (fun _ => ?_) (fun q => absurd q (by decide))
        refine wp_aload_n (pc := 26) dX12_row_26 (by first | rfl | assumption | (repeat first | assumption | rfl | refine aG_n ?_ rfl rfl)) ?_
        refine wp_getR (pc := 27) dX12_row_27 fl_12_119 (by first | rfl | assumption | exact sh_house (by omega) | exact sh_wish (by omega) | exact sh_wor (by omega) | exact sh_bar (by omega) | exact sh_term (by omega) | exact sh_sheet (by omega) | exact sh_items (by omega) | exact sh_sums (by omega)) rfl ?_
        refine wp_iload_n (pc := 30) dX12_row_30 (by first | rfl | assumption | (repeat first | assumption | rfl | refine aG_n ?_ rfl rfl)) ?_
        refine wp_ialdC (pc := 31) (j := 0) dX12_row_31 (by first | rfl | assumption | exact sh_house (by omega) | exact sh_wish (by omega) | exact sh_wor (by omega) | exact sh_bar (by omega) | exact sh_term (by omega) | exact sh_sheet (by omega) | exact sh_items (by omega) | exact sh_sums (by omega)) (by decide) (by decide) ?_
        refine wp_istore_n (pc := 32) dX12_row_32 (by decide) ?_
        refine wp_aload_n (pc := 33) dX12_row_33 (by first | rfl | assumption | (repeat first | assumption | rfl | refine aG_n ?_ rfl rfl)) ?_
        refine wp_getR (pc := 34) dX12_row_34 fl_12_119 (by first | rfl | assumption | exact sh_house (by omega) | exact sh_wish (by omega) | exact sh_wor (by omega) | exact sh_bar (by omega) | exact sh_term (by omega) | exact sh_sheet (by omega) | exact sh_items (by omega) | exact sh_sums (by omega)) rfl ?_
        refine wp_iload_n (pc := 37) dX12_row_37 (by first | rfl | assumption | (repeat first | assumption | rfl | refine aG_n ?_ rfl rfl)) ?_
        refine wp_iload_n (pc := 38) dX12_row_38 (by first | rfl | assumption | (repeat first | assumption | rfl | refine aG_n ?_ rfl rfl)) ?_
        refine wp_iastC (pc := 39) (j := 0) dX12_row_39 (by first | rfl | assumption | exact sh_house (by omega) | exact sh_wish (by omega) | exact sh_wor (by omega) | exact sh_bar (by omega) | exact sh_term (by omega) | exact sh_sheet (by omega) | exact sh_items (by omega) | exact sh_sums (by omega)) (by decide) (by decide) ?_
        refine wp_iload_n (pc := 40) dX12_row_40 (by first | rfl | assumption | (repeat first | assumption | rfl | refine aG_n ?_ rfl rfl)) ?_
        refine wp_ireturn (pc := 41) dX12_row_41 rfl (by first | rfl | decide | assumption) ?_
        refine qEq ?_ (k' _ ?_)
        · simp (disch := omega) only [up2_ne]
          exact (hR.1 0 (by omega)).1.symm
        · refine ⟨own_c (by simp (disch := omega) only [up2_ne, fil_ne]) (fun i9 hi9 => (by simp (disch := omega) only [up2_ne, up2_p, fil_ne, fil_p])) (hI.1), coin_c (by simp (disch := omega) only [up2_ne, fil_ne]) (fun i9 hi9 => (by simp (disch := omega) only [up2_ne, up2_p, fil_ne, fil_p])) (hI.2.1), lev_c ⟨(by simp (disch := omega) only [up2_ne, fil_ne]), (by simp (disch := omega) only [up2_ne, fil_ne]), (by simp (disch := omega) only [up2_ne, fil_ne])⟩ (fun i9 hi9 => ⟨(by simp (disch := omega) only [up2_ne, up2_p, fil_ne, fil_p]), (by simp (disch := omega) only [up2_ne, up2_p, fil_ne, fil_p]), (by simp (disch := omega) only [up2_ne, up2_p, fil_ne, fil_p])⟩) (hI.2.2.1), wish_c ⟨(by simp (disch := omega) only [up2_ne, fil_ne]), (by simp (disch := omega) only [up2_ne, fil_ne]), (by simp (disch := omega) only [up2_ne, fil_ne]), (by simp (disch := omega) only [up2_ne, fil_ne])⟩ (fun i9 hi9 => ⟨(by simp (disch := omega) only [up2_ne, fil_ne]), (by simp (disch := omega) only [up2_ne, fil_ne]), (by simp (disch := omega) only [up2_ne, fil_ne])⟩) (hI.2.2.2.1), tape_c (by simp (disch := omega) only [up2_ne, up2_p, fil_ne, fil_p]) (by simp (disch := omega) only [up2_ne, up2_p, fil_ne, fil_p]) (by simp (disch := omega) only [up2_ne, fil_ne]) (by simp (disch := omega) only [up2_ne, fil_ne]) (hI.2.2.2.2.1), talk_c ⟨(by simp (disch := omega) only [up2_ne, fil_ne]), (by simp (disch := omega) only [up2_ne, fil_ne]), (by simp (disch := omega) only [up2_ne, fil_ne]), (by simp (disch := omega) only [up2_ne, fil_ne]), (by simp (disch := omega) only [up2_ne, fil_ne])⟩ ⟨(by simp (disch := omega) only [up2_ne, fil_ne]), (by simp (disch := omega) only [up2_ne, fil_ne]), (by simp (disch := omega) only [up2_ne, fil_ne])⟩ (fun j9 hj9 hk9 => (by simp (disch := omega) only [up2_ne, up2_p, fil_ne, fil_p])) (fun o9 => ⟨(by simp (disch := omega) only [up2_ne, fil_ne]), (by simp (disch := omega) only [up2_ne, fil_ne])⟩) rfl (hI.2.2.2.2.2.1), led_c (by simp (disch := omega) only [up2_ne, up2_p, fil_ne, fil_p]) (by simp (disch := omega) only [up2_ne, up2_p, fil_ne, fil_p]) (fun i9 hi9 => (by simp (disch := omega) only [up2_ne, fil_ne])) (fun c9 hc9 hd9 => (by simp (disch := omega) only [up2_ne, fil_ne])) ⟨(by simp (disch := omega) only [up2_ne, fil_ne]), (by simp (disch := omega) only [up2_ne, fil_ne])⟩ (hI.2.2.2.2.2.2.1), ?_, sheet_c ⟨(by simp (disch := omega) only [up2_ne, fil_ne]), (by simp (disch := omega) only [up2_ne, fil_ne]), (by simp (disch := omega) only [up2_ne, fil_ne])⟩ (fun s9 hs9 => ⟨(by simp (disch := omega) only [up2_ne, fil_ne]), (by simp (disch := omega) only [up2_ne, fil_ne])⟩) (hI.2.2.2.2.2.2.2.2.1), grp_c (by simp (disch := omega) only [up2_ne, up2_p, fil_ne, fil_p]) (fun g9 hg9 => (by simp (disch := omega) only [up2_ne, fil_ne])) (fun i9 hi9 => ⟨(by simp (disch := omega) only [up2_ne, fil_ne]), (by simp (disch := omega) only [up2_ne, fil_ne])⟩) (hI.2.2.2.2.2.2.2.2.2)⟩
          refine ⟨fun q hq => ?_, fun n h1 h2 => ?_⟩
          · have hh := hR.1 q hq
            match q, hq with
            | 0, _ => exact ⟨by simp (disch := omega) only [up2_ne, up2_p, up2_at], by simp (disch := omega) only [up2_ne, up2_p, up2_at]; exact c2⟩
            | 1, _ => simp (disch := omega) only [up2_ne, up2_p, up2_at]; exact hh
            | 2, _ => simp (disch := omega) only [up2_ne, up2_p, up2_at]; exact hh
            | 3, _ => simp (disch := omega) only [up2_ne, up2_p, up2_at]; exact hh
            | 4, _ => simp (disch := omega) only [up2_ne, up2_p, up2_at]; exact hh
            | 5, _ => simp (disch := omega) only [up2_ne, up2_p, up2_at]; exact hh
            | 6, _ => simp (disch := omega) only [up2_ne, up2_p, up2_at]; exact hh
            | 7, _ => simp (disch := omega) only [up2_ne, up2_p, up2_at]; exact hh
            | _ + 8, hq => omega
          · have hh := hR.2 n h1 h2
            match n, h1, h2 with
            | 0, h1, _ => omega
            | 1, _, _ => simp (disch := omega) only [up2_ne, up2_p, up2_at, Nat.reduceMul, Nat.reduceAdd]
            | 2, _, _ => simp (disch := omega) only [up2_ne, up2_p, up2_at, Nat.reduceMul, Nat.reduceAdd]
            | 3, _, _ => simp (disch := omega) only [up2_ne, up2_p, up2_at]; exact hh
            | 4, _, _ => simp (disch := omega) only [up2_ne, up2_p, up2_at, Nat.reduceMul, Nat.reduceAdd]
            | 5, _, _ => simp (disch := omega) only [up2_ne, up2_p, up2_at]; exact hh
            | 6, _, _ => simp (disch := omega) only [up2_ne, up2_p, up2_at]; exact hh
            | 7, _, _ => simp (disch := omega) only [up2_ne, up2_p, up2_at]; exact hh
            | _ + 8, _, h2 => omega
      | 1, _ =>
        refine wp_iload_n (pc := 0) dX11_row_0 (by first | rfl | assumption | (repeat first | assumption | rfl | refine aG_n ?_ rfl rfl)) ?_
        refine wp_iconst (pc := 1) (v := 0) dX11_row_1 (by decide) ?_
        refine wp_bipush (pc := 2) (v := 7) dX11_row_2 (by decide) ?_
        refine wp_cS (pc := 4) dX11_row_4 lk_11_112 rfl rfl rfl (c_X11_isWithin (fun _ => aK_i ?_) (fun q => absurd c1 q))
        refine wp_if_eq (pc := 7) (tgt := 21) dX11_row_7 rfl (fun q => absurd q (by decide)) (fun _ => ?_)
        refine wp_iload_n (pc := 10) dX11_row_10 (by first | rfl | assumption | (repeat first | assumption | rfl | refine aG_n ?_ rfl rfl)) ?_
        refine wp_iconst (pc := 11) (v := 0) dX11_row_11 (by decide) ?_
        refine wp_sipush (pc := 12) (v := 999) dX11_row_12 (by decide) ?_
        refine wp_cS (pc := 15) dX11_row_15 lk_11_112 rfl rfl rfl (c_X11_isWithin (fun _ => aK_i ?_) (fun q => absurd c2 q))
        refine wp_if_ne (pc := 18) (tgt := 23) dX11_row_18 rfl (fun _ => ?_) (fun q => absurd q (by decide))
        refine wp_aload_n (pc := 23) dX11_row_23 (by first | rfl | assumption | (repeat first | assumption | rfl | refine aG_n ?_ rfl rfl)) ?_
        refine wp_getR (pc := 24) dX11_row_24 fl_11_60 (by first | rfl | assumption | exact sh_house (by omega) | exact sh_wish (by omega) | exact sh_wor (by omega) | exact sh_bar (by omega) | exact sh_term (by omega) | exact sh_sheet (by omega) | exact sh_items (by omega) | exact sh_sums (by omega)) rfl ?_
        refine wp_iload_n (pc := 27) dX11_row_27 (by first | rfl | assumption | (repeat first | assumption | rfl | refine aG_n ?_ rfl rfl)) ?_
        refine wp_iload_n (pc := 28) dX11_row_28 (by first | rfl | assumption | (repeat first | assumption | rfl | refine aG_n ?_ rfl rfl)) ?_
        refine wp_cV (pc := 29) dX11_row_29 lk_11_346 rfl (by decide) rfl (by first | rfl | assumption | exact sh_house (by omega) | exact sh_wish (by omega) | exact sh_wor (by omega) | exact sh_bar (by omega) | exact sh_term (by omega) | exact sh_sheet (by omega) | exact sh_items (by omega) | exact sh_sums (by omega)) rfl rfl ?_
        refine wp_aload_n (pc := 0) dX5_put_0 (by first | rfl | assumption | (repeat first | assumption | rfl | refine aG_n ?_ rfl rfl)) ?_
        refine wp_getR (pc := 1) dX5_put_1 fl_5_9 (by first | rfl | assumption | exact sh_house (by omega) | exact sh_wish (by omega) | exact sh_wor (by omega) | exact sh_bar (by omega) | exact sh_term (by omega) | exact sh_sheet (by omega) | exact sh_items (by omega) | exact sh_sums (by omega)) rfl ?_
        refine wp_bipush (pc := 4) (v := 8) dX5_put_4 (by decide) ?_
        refine wp_iload_n (pc := 6) dX5_put_6 (by first | rfl | assumption | (repeat first | assumption | rfl | refine aG_n ?_ rfl rfl)) ?_
        refine wp_iadd (pc := 7) dX5_put_7 ?_
        refine wp_ialdC (pc := 8) (j := 9) dX5_put_8 (by first | rfl | assumption | exact sh_house (by omega) | exact sh_wish (by omega) | exact sh_wor (by omega) | exact sh_bar (by omega) | exact sh_term (by omega) | exact sh_sheet (by omega) | exact sh_items (by omega) | exact sh_sums (by omega)) (by decide) (by decide) ?_
        refine wp_istore_n (pc := 9) dX5_put_9 (by decide) ?_
        refine wp_aload_n (pc := 10) dX5_put_10 (by first | rfl | assumption | (repeat first | assumption | rfl | refine aG_n ?_ rfl rfl)) ?_
        refine wp_getR (pc := 11) dX5_put_11 fl_5_9 (by first | rfl | assumption | exact sh_house (by omega) | exact sh_wish (by omega) | exact sh_wor (by omega) | exact sh_bar (by omega) | exact sh_term (by omega) | exact sh_sheet (by omega) | exact sh_items (by omega) | exact sh_sums (by omega)) rfl ?_
        refine wp_bipush (pc := 14) (v := 8) dX5_put_14 (by decide) ?_
        refine wp_iload_n (pc := 16) dX5_put_16 (by first | rfl | assumption | (repeat first | assumption | rfl | refine aG_n ?_ rfl rfl)) ?_
        refine wp_iadd (pc := 17) dX5_put_17 ?_
        refine wp_iload_n (pc := 18) dX5_put_18 (by first | rfl | assumption | (repeat first | assumption | rfl | refine aG_n ?_ rfl rfl)) ?_
        refine wp_iastC (pc := 19) (j := 9) dX5_put_19 (by first | rfl | assumption | exact sh_house (by omega) | exact sh_wish (by omega) | exact sh_wor (by omega) | exact sh_bar (by omega) | exact sh_term (by omega) | exact sh_sheet (by omega) | exact sh_items (by omega) | exact sh_sums (by omega)) (by decide) (by decide) ?_
        refine wp_bipush (pc := 20) (v := 8) dX5_put_20 (by decide) ?_
        refine wp_iload_n (pc := 22) dX5_put_22 (by first | rfl | assumption | (repeat first | assumption | rfl | refine aG_n ?_ rfl rfl)) ?_
        refine wp_iadd (pc := 23) dX5_put_23 ?_
        refine wp_iconst (pc := 24) (v := 2) dX5_put_24 (by decide) ?_
        refine wp_idiv (pc := 25) dX5_put_25 (by decide) ?_
        refine wp_istore (pc := 26) dX5_put_26 (by decide) ?_
        refine wp_iload (pc := 28) dX5_put_28 (by first | rfl | assumption | (repeat first | assumption | rfl | refine aG_n ?_ rfl rfl)) ?_
        refine wp_if_le (pc := 30) (tgt := 72) dX5_put_30 rfl (fun q => absurd q (by decide)) (fun _ => ?_)
        refine wp_aload_n (pc := 33) dX5_put_33 (by first | rfl | assumption | (repeat first | assumption | rfl | refine aG_n ?_ rfl rfl)) ?_
        refine wp_getR (pc := 34) dX5_put_34 fl_5_9 (by first | rfl | assumption | exact sh_house (by omega) | exact sh_wish (by omega) | exact sh_wor (by omega) | exact sh_bar (by omega) | exact sh_term (by omega) | exact sh_sheet (by omega) | exact sh_items (by omega) | exact sh_sums (by omega)) rfl ?_
        refine wp_iload (pc := 37) dX5_put_37 (by first | rfl | assumption | (repeat first | assumption | rfl | refine aG_n ?_ rfl rfl)) ?_
        refine wp_aload_n (pc := 39) dX5_put_39 (by first | rfl | assumption | (repeat first | assumption | rfl | refine aG_n ?_ rfl rfl)) ?_
        refine wp_getR (pc := 40) dX5_put_40 fl_5_9 (by first | rfl | assumption | exact sh_house (by omega) | exact sh_wish (by omega) | exact sh_wor (by omega) | exact sh_bar (by omega) | exact sh_term (by omega) | exact sh_sheet (by omega) | exact sh_items (by omega) | exact sh_sums (by omega)) rfl ?_
        refine wp_iconst (pc := 43) (v := 2) dX5_put_43 (by decide) ?_
        refine wp_iload (pc := 44) dX5_put_44 (by first | rfl | assumption | (repeat first | assumption | rfl | refine aG_n ?_ rfl rfl)) ?_
        refine wp_imul (pc := 46) dX5_put_46 ?_
        refine wp_ialdC (pc := 47) (j := 8) dX5_put_47 (by first | rfl | assumption | exact sh_house (by omega) | exact sh_wish (by omega) | exact sh_wor (by omega) | exact sh_bar (by omega) | exact sh_term (by omega) | exact sh_sheet (by omega) | exact sh_items (by omega) | exact sh_sums (by omega)) (by decide) (by decide) ?_
        refine wp_aload_n (pc := 48) dX5_put_48 (by first | rfl | assumption | (repeat first | assumption | rfl | refine aG_n ?_ rfl rfl)) ?_
        refine wp_getR (pc := 49) dX5_put_49 fl_5_9 (by first | rfl | assumption | exact sh_house (by omega) | exact sh_wish (by omega) | exact sh_wor (by omega) | exact sh_bar (by omega) | exact sh_term (by omega) | exact sh_sheet (by omega) | exact sh_items (by omega) | exact sh_sums (by omega)) rfl ?_
        refine wp_iconst (pc := 52) (v := 2) dX5_put_52 (by decide) ?_
        refine wp_iload (pc := 53) dX5_put_53 (by first | rfl | assumption | (repeat first | assumption | rfl | refine aG_n ?_ rfl rfl)) ?_
        refine wp_imul (pc := 55) dX5_put_55 ?_
        refine wp_iconst (pc := 56) (v := 1) dX5_put_56 (by decide) ?_
        refine wp_iadd (pc := 57) dX5_put_57 ?_
        refine wp_ialdC (pc := 58) (j := 9) dX5_put_58 (by first | rfl | assumption | exact sh_house (by omega) | exact sh_wish (by omega) | exact sh_wor (by omega) | exact sh_bar (by omega) | exact sh_term (by omega) | exact sh_sheet (by omega) | exact sh_items (by omega) | exact sh_sums (by omega)) (by decide) (by decide) ?_
        refine wp_cS (pc := 59) dX5_put_59 lk_5_13 rfl rfl rfl (c_X5_sum (aK_i ?_))
        refine wp_iastC (pc := 62) (j := 4) dX5_put_62 (by first | rfl | assumption | exact sh_house (by omega) | exact sh_wish (by omega) | exact sh_wor (by omega) | exact sh_bar (by omega) | exact sh_term (by omega) | exact sh_sheet (by omega) | exact sh_items (by omega) | exact sh_sums (by omega)) (by decide) (by decide) ?_
        refine wp_iload (pc := 63) dX5_put_63 (by first | rfl | assumption | (repeat first | assumption | rfl | refine aG_n ?_ rfl rfl)) ?_
        refine wp_iconst (pc := 65) (v := 2) dX5_put_65 (by decide) ?_
        refine wp_idiv (pc := 66) dX5_put_66 (by decide) ?_
        refine wp_istore (pc := 67) dX5_put_67 (by decide) ?_
        refine wp_goto (pc := 69) (tgt := 28) dX5_put_69 rfl ?_
        refine wp_iload (pc := 28) dX5_put_28 (by first | rfl | assumption | (repeat first | assumption | rfl | refine aG_n ?_ rfl rfl)) ?_
        refine wp_if_le (pc := 30) (tgt := 72) dX5_put_30 rfl (fun q => absurd q (by decide)) (fun _ => ?_)
        refine wp_aload_n (pc := 33) dX5_put_33 (by first | rfl | assumption | (repeat first | assumption | rfl | refine aG_n ?_ rfl rfl)) ?_
        refine wp_getR (pc := 34) dX5_put_34 fl_5_9 (by first | rfl | assumption | exact sh_house (by omega) | exact sh_wish (by omega) | exact sh_wor (by omega) | exact sh_bar (by omega) | exact sh_term (by omega) | exact sh_sheet (by omega) | exact sh_items (by omega) | exact sh_sums (by omega)) rfl ?_
        refine wp_iload (pc := 37) dX5_put_37 (by first | rfl | assumption | (repeat first | assumption | rfl | refine aG_n ?_ rfl rfl)) ?_
        refine wp_aload_n (pc := 39) dX5_put_39 (by first | rfl | assumption | (repeat first | assumption | rfl | refine aG_n ?_ rfl rfl)) ?_
        refine wp_getR (pc := 40) dX5_put_40 fl_5_9 (by first | rfl | assumption | exact sh_house (by omega) | exact sh_wish (by omega) | exact sh_wor (by omega) | exact sh_bar (by omega) | exact sh_term (by omega) | exact sh_sheet (by omega) | exact sh_items (by omega) | exact sh_sums (by omega)) rfl ?_
        refine wp_iconst (pc := 43) (v := 2) dX5_put_43 (by decide) ?_
        refine wp_iload (pc := 44) dX5_put_44 (by first | rfl | assumption | (repeat first | assumption | rfl | refine aG_n ?_ rfl rfl)) ?_
        refine wp_imul (pc := 46) dX5_put_46 ?_
        refine wp_ialdC (pc := 47) (j := 4) dX5_put_47 (by first | rfl | assumption | exact sh_house (by omega) | exact sh_wish (by omega) | exact sh_wor (by omega) | exact sh_bar (by omega) | exact sh_term (by omega) | exact sh_sheet (by omega) | exact sh_items (by omega) | exact sh_sums (by omega)) (by decide) (by decide) ?_
        refine wp_aload_n (pc := 48) dX5_put_48 (by first | rfl | assumption | (repeat first | assumption | rfl | refine aG_n ?_ rfl rfl)) ?_
        refine wp_getR (pc := 49) dX5_put_49 fl_5_9 (by first | rfl | assumption | exact sh_house (by omega) | exact sh_wish (by omega) | exact sh_wor (by omega) | exact sh_bar (by omega) | exact sh_term (by omega) | exact sh_sheet (by omega) | exact sh_items (by omega) | exact sh_sums (by omega)) rfl ?_
        refine wp_iconst (pc := 52) (v := 2) dX5_put_52 (by decide) ?_
        refine wp_iload (pc := 53) dX5_put_53 (by first | rfl | assumption | (repeat first | assumption | rfl | refine aG_n ?_ rfl rfl)) ?_
        refine wp_imul (pc := 55) dX5_put_55 ?_
        refine wp_iconst (pc := 56) (v := 1) dX5_put_56 (by decide) ?_
        refine wp_iadd (pc := 57) dX5_put_57 ?_
        refine wp_ialdC (pc := 58) (j := 5) dX5_put_58 (by first | rfl | assumption | exact sh_house (by omega) | exact sh_wish (by omega) | exact sh_wor (by omega) | exact sh_bar (by omega) | exact sh_term (by omega) | exact sh_sheet (by omega) | exact sh_items (by omega) | exact sh_sums (by omega)) (by decide) (by decide) ?_
        refine wp_cS (pc := 59) dX5_put_59 lk_5_13 rfl rfl rfl (c_X5_sum (aK_i ?_))
        refine wp_iastC (pc := 62) (j := 2) dX5_put_62 (by first | rfl | assumption | exact sh_house (by omega) | exact sh_wish (by omega) | exact sh_wor (by omega) | exact sh_bar (by omega) | exact sh_term (by omega) | exact sh_sheet (by omega) | exact sh_items (by omega) | exact sh_sums (by omega)) (by decide) (by decide) ?_
        refine wp_iload (pc := 63) dX5_put_63 (by first | rfl | assumption | (repeat first | assumption | rfl | refine aG_n ?_ rfl rfl)) ?_
        refine wp_iconst (pc := 65) (v := 2) dX5_put_65 (by decide) ?_
        refine wp_idiv (pc := 66) dX5_put_66 (by decide) ?_
        refine wp_istore (pc := 67) dX5_put_67 (by decide) ?_
        refine wp_goto (pc := 69) (tgt := 28) dX5_put_69 rfl ?_
        refine wp_iload (pc := 28) dX5_put_28 (by first | rfl | assumption | (repeat first | assumption | rfl | refine aG_n ?_ rfl rfl)) ?_
        refine wp_if_le (pc := 30) (tgt := 72) dX5_put_30 rfl (fun q => absurd q (by decide)) (fun _ => ?_)
        refine wp_aload_n (pc := 33) dX5_put_33 (by first | rfl | assumption | (repeat first | assumption | rfl | refine aG_n ?_ rfl rfl)) ?_
        refine wp_getR (pc := 34) dX5_put_34 fl_5_9 (by first | rfl | assumption | exact sh_house (by omega) | exact sh_wish (by omega) | exact sh_wor (by omega) | exact sh_bar (by omega) | exact sh_term (by omega) | exact sh_sheet (by omega) | exact sh_items (by omega) | exact sh_sums (by omega)) rfl ?_
        refine wp_iload (pc := 37) dX5_put_37 (by first | rfl | assumption | (repeat first | assumption | rfl | refine aG_n ?_ rfl rfl)) ?_
        refine wp_aload_n (pc := 39) dX5_put_39 (by first | rfl | assumption | (repeat first | assumption | rfl | refine aG_n ?_ rfl rfl)) ?_
        refine wp_getR (pc := 40) dX5_put_40 fl_5_9 (by first | rfl | assumption | exact sh_house (by omega) | exact sh_wish (by omega) | exact sh_wor (by omega) | exact sh_bar (by omega) | exact sh_term (by omega) | exact sh_sheet (by omega) | exact sh_items (by omega) | exact sh_sums (by omega)) rfl ?_
        refine wp_iconst (pc := 43) (v := 2) dX5_put_43 (by decide) ?_
        refine wp_iload (pc := 44) dX5_put_44 (by first | rfl | assumption | (repeat first | assumption | rfl | refine aG_n ?_ rfl rfl)) ?_
        refine wp_imul (pc := 46) dX5_put_46 ?_
        refine wp_ialdC (pc := 47) (j := 2) dX5_put_47 (by first | rfl | assumption | exact sh_house (by omega) | exact sh_wish (by omega) | exact sh_wor (by omega) | exact sh_bar (by omega) | exact sh_term (by omega) | exact sh_sheet (by omega) | exact sh_items (by omega) | exact sh_sums (by omega)) (by decide) (by decide) ?_
        refine wp_aload_n (pc := 48) dX5_put_48 (by first | rfl | assumption | (repeat first | assumption | rfl | refine aG_n ?_ rfl rfl)) ?_
        refine wp_getR (pc := 49) dX5_put_49 fl_5_9 (by first | rfl | assumption | exact sh_house (by omega) | exact sh_wish (by omega) | exact sh_wor (by omega) | exact sh_bar (by omega) | exact sh_term (by omega) | exact sh_sheet (by omega) | exact sh_items (by omega) | exact sh_sums (by omega)) rfl ?_
        refine wp_iconst (pc := 52) (v := 2) dX5_put_52 (by decide) ?_
        refine wp_iload (pc := 53) dX5_put_53 (by first | rfl | assumption | (repeat first | assumption | rfl | refine aG_n ?_ rfl rfl)) ?_
        refine wp_imul (pc := 55) dX5_put_55 ?_
        refine wp_iconst (pc := 56) (v := 1) dX5_put_56 (by decide) ?_
        refine wp_iadd (pc := 57) dX5_put_57 ?_
        refine wp_ialdC (pc := 58) (j := 3) dX5_put_58 (by first | rfl | assumption | exact sh_house (by omega) | exact sh_wish (by omega) | exact sh_wor (by omega) | exact sh_bar (by omega) | exact sh_term (by omega) | exact sh_sheet (by omega) | exact sh_items (by omega) | exact sh_sums (by omega)) (by decide) (by decide) ?_
        refine wp_cS (pc := 59) dX5_put_59 lk_5_13 rfl rfl rfl (c_X5_sum (aK_i ?_))
        refine wp_iastC (pc := 62) (j := 1) dX5_put_62 (by first | rfl | assumption | exact sh_house (by omega) | exact sh_wish (by omega) | exact sh_wor (by omega) | exact sh_bar (by omega) | exact sh_term (by omega) | exact sh_sheet (by omega) | exact sh_items (by omega) | exact sh_sums (by omega)) (by decide) (by decide) ?_
        refine wp_iload (pc := 63) dX5_put_63 (by first | rfl | assumption | (repeat first | assumption | rfl | refine aG_n ?_ rfl rfl)) ?_
        refine wp_iconst (pc := 65) (v := 2) dX5_put_65 (by decide) ?_
        refine wp_idiv (pc := 66) dX5_put_66 (by decide) ?_
        refine wp_istore (pc := 67) dX5_put_67 (by decide) ?_
        refine wp_goto (pc := 69) (tgt := 28) dX5_put_69 rfl ?_
        refine wp_iload (pc := 28) dX5_put_28 (by first | rfl | assumption | (repeat first | assumption | rfl | refine aG_n ?_ rfl rfl)) ?_
        refine wp_if_le (pc := 30) (tgt := 72) dX5_put_30 rfl (fun _ => ?_) (fun q => absurd q (by decide))
        refine wp_iload_n (pc := 72) dX5_put_72 (by first | rfl | assumption | (repeat first | assumption | rfl | refine aG_n ?_ rfl rfl)) ?_
        refine wp_iretK (pc := 73) dX5_put_73 rfl (by first | rfl | decide | assumption) ?_
        refine wp_ireturn (pc := 32) dX11_row_32 rfl (by first | rfl | decide | assumption) ?_
        refine k _ _ (fun Q' k' => ?_)
        refine wp_iload_n (pc := 0) dX12_row_0 (by first | rfl | assumption | (repeat first | assumption | rfl | refine aG_n ?_ rfl rfl)) ?_
        refine wp_i2l (pc := 1) dX12_row_1 ?_
        refine wp_lconst (pc := 2) (v := 0) dX12_row_2 (by decide) ?_
        refine wp_ldc2 (pc := 3) dX12_row_3 cl_12_347 ?_
        refine wp_cS (pc := 6) dX12_row_6 lk_12_133 rfl rfl rfl (c_X12_in (fun _ => aK_i ?_) (fun q => absurd (by rw [w_int]; exact c1) q))
        refine wp_if_eq (pc := 9) (tgt := 24) dX12_row_9 rfl (fun q => absurd q (by decide)) (fun _ => ?_)
        refine wp_iload_n (pc := 12) dX12_row_12 (by first | rfl | assumption | (repeat first | assumption | rfl | refine aG_n ?_ rfl rfl)) ?_
        refine wp_i2l (pc := 13) dX12_row_13 ?_
        refine wp_lconst (pc := 14) (v := 0) dX12_row_14 (by decide) ?_
        refine wp_ldc2 (pc := 15) dX12_row_15 cl_12_216 ?_
        refine wp_cS (pc := 18) dX12_row_18 lk_12_133 rfl rfl rfl (c_X12_in (fun _ => aK_i ?_) (fun q => absurd (by rw [w_int]; exact c2) q))
        refine wp_if_ne (pc := 21) (tgt := 26) dX12_row_21 rfl (fun _ => ?_) (fun q => absurd q (by decide))
        refine wp_aload_n (pc := 26) dX12_row_26 (by first | rfl | assumption | (repeat first | assumption | rfl | refine aG_n ?_ rfl rfl)) ?_
        refine wp_getR (pc := 27) dX12_row_27 fl_12_119 (by first | rfl | assumption | exact sh_house (by omega) | exact sh_wish (by omega) | exact sh_wor (by omega) | exact sh_bar (by omega) | exact sh_term (by omega) | exact sh_sheet (by omega) | exact sh_items (by omega) | exact sh_sums (by omega)) rfl ?_
        refine wp_iload_n (pc := 30) dX12_row_30 (by first | rfl | assumption | (repeat first | assumption | rfl | refine aG_n ?_ rfl rfl)) ?_
        refine wp_ialdC (pc := 31) (j := 1) dX12_row_31 (by first | rfl | assumption | exact sh_house (by omega) | exact sh_wish (by omega) | exact sh_wor (by omega) | exact sh_bar (by omega) | exact sh_term (by omega) | exact sh_sheet (by omega) | exact sh_items (by omega) | exact sh_sums (by omega)) (by decide) (by decide) ?_
        refine wp_istore_n (pc := 32) dX12_row_32 (by decide) ?_
        refine wp_aload_n (pc := 33) dX12_row_33 (by first | rfl | assumption | (repeat first | assumption | rfl | refine aG_n ?_ rfl rfl)) ?_
        refine wp_getR (pc := 34) dX12_row_34 fl_12_119 (by first | rfl | assumption | exact sh_house (by omega) | exact sh_wish (by omega) | exact sh_wor (by omega) | exact sh_bar (by omega) | exact sh_term (by omega) | exact sh_sheet (by omega) | exact sh_items (by omega) | exact sh_sums (by omega)) rfl ?_
        refine wp_iload_n (pc := 37) dX12_row_37 (by first | rfl | assumption | (repeat first | assumption | rfl | refine aG_n ?_ rfl rfl)) ?_
        refine wp_iload_n (pc := 38) dX12_row_38 (by first | rfl | assumption | (repeat first | assumption | rfl | refine aG_n ?_ rfl rfl)) ?_
        refine wp_iastC (pc := 39) (j := 1) dX12_row_39 (by first | rfl | assumption | exact sh_house (by omega) | exact sh_wish (by omega) | exact sh_wor (by omega) | exact sh_bar (by omega) | exact sh_term (by omega) | exact sh_sheet (by omega) | exact sh_items (by omega) | exact sh_sums (by omega)) (by decide) (by decide) ?_
        refine wp_iload_n (pc := 40) dX12_row_40 (by first | rfl | assumption | (repeat first | assumption | rfl | refine aG_n ?_ rfl rfl)) ?_
        refine wp_ireturn (pc := 41) dX12_row_41 rfl (by first | rfl | decide | assumption) ?_
        refine qEq ?_ (k' _ ?_)
        · simp (disch := omega) only [up2_ne]
          exact (hR.1 1 (by omega)).1.symm
        · refine ⟨own_c (by simp (disch := omega) only [up2_ne, fil_ne]) (fun i9 hi9 => (by simp (disch := omega) only [up2_ne, up2_p, fil_ne, fil_p])) (hI.1), coin_c (by simp (disch := omega) only [up2_ne, fil_ne]) (fun i9 hi9 => (by simp (disch := omega) only [up2_ne, up2_p, fil_ne, fil_p])) (hI.2.1), lev_c ⟨(by simp (disch := omega) only [up2_ne, fil_ne]), (by simp (disch := omega) only [up2_ne, fil_ne]), (by simp (disch := omega) only [up2_ne, fil_ne])⟩ (fun i9 hi9 => ⟨(by simp (disch := omega) only [up2_ne, up2_p, fil_ne, fil_p]), (by simp (disch := omega) only [up2_ne, up2_p, fil_ne, fil_p]), (by simp (disch := omega) only [up2_ne, up2_p, fil_ne, fil_p])⟩) (hI.2.2.1), wish_c ⟨(by simp (disch := omega) only [up2_ne, fil_ne]), (by simp (disch := omega) only [up2_ne, fil_ne]), (by simp (disch := omega) only [up2_ne, fil_ne]), (by simp (disch := omega) only [up2_ne, fil_ne])⟩ (fun i9 hi9 => ⟨(by simp (disch := omega) only [up2_ne, fil_ne]), (by simp (disch := omega) only [up2_ne, fil_ne]), (by simp (disch := omega) only [up2_ne, fil_ne])⟩) (hI.2.2.2.1), tape_c (by simp (disch := omega) only [up2_ne, up2_p, fil_ne, fil_p]) (by simp (disch := omega) only [up2_ne, up2_p, fil_ne, fil_p]) (by simp (disch := omega) only [up2_ne, fil_ne]) (by simp (disch := omega) only [up2_ne, fil_ne]) (hI.2.2.2.2.1), talk_c ⟨(by simp (disch := omega) only [up2_ne, fil_ne]), (by simp (disch := omega) only [up2_ne, fil_ne]), (by simp (disch := omega) only [up2_ne, fil_ne]), (by simp (disch := omega) only [up2_ne, fil_ne]), (by simp (disch := omega) only [up2_ne, fil_ne])⟩ ⟨(by simp (disch := omega) only [up2_ne, fil_ne]), (by simp (disch := omega) only [up2_ne, fil_ne]), (by simp (disch := omega) only [up2_ne, fil_ne])⟩ (fun j9 hj9 hk9 => (by simp (disch := omega) only [up2_ne, up2_p, fil_ne, fil_p])) (fun o9 => ⟨(by simp (disch := omega) only [up2_ne, fil_ne]), (by simp (disch := omega) only [up2_ne, fil_ne])⟩) rfl (hI.2.2.2.2.2.1), led_c (by simp (disch := omega) only [up2_ne, up2_p, fil_ne, fil_p]) (by simp (disch := omega) only [up2_ne, up2_p, fil_ne, fil_p]) (fun i9 hi9 => (by simp (disch := omega) only [up2_ne, fil_ne])) (fun c9 hc9 hd9 => (by simp (disch := omega) only [up2_ne, fil_ne])) ⟨(by simp (disch := omega) only [up2_ne, fil_ne]), (by simp (disch := omega) only [up2_ne, fil_ne])⟩ (hI.2.2.2.2.2.2.1), ?_, sheet_c ⟨(by simp (disch := omega) only [up2_ne, fil_ne]), (by simp (disch := omega) only [up2_ne, fil_ne]), (by simp (disch := omega) only [up2_ne, fil_ne])⟩ (fun s9 hs9 => ⟨(by simp (disch := omega) only [up2_ne, fil_ne]), (by simp (disch := omega) only [up2_ne, fil_ne])⟩) (hI.2.2.2.2.2.2.2.2.1), grp_c (by simp (disch := omega) only [up2_ne, up2_p, fil_ne, fil_p]) (fun g9 hg9 => (by simp (disch := omega) only [up2_ne, fil_ne])) (fun i9 hi9 => ⟨(by simp (disch := omega) only [up2_ne, fil_ne]), (by simp (disch := omega) only [up2_ne, fil_ne])⟩) (hI.2.2.2.2.2.2.2.2.2)⟩
          refine ⟨fun q hq => ?_, fun n h1 h2 => ?_⟩
          · have hh := hR.1 q hq
            match q, hq with
            | 0, _ => simp (disch := omega) only [up2_ne, up2_p, up2_at]; exact hh
            | 1, _ => exact ⟨by simp (disch := omega) only [up2_ne, up2_p, up2_at], by simp (disch := omega) only [up2_ne, up2_p, up2_at]; exact c2⟩
            | 2, _ => simp (disch := omega) only [up2_ne, up2_p, up2_at]; exact hh
            | 3, _ => simp (disch := omega) only [up2_ne, up2_p, up2_at]; exact hh
            | 4, _ => simp (disch := omega) only [up2_ne, up2_p, up2_at]; exact hh
            | 5, _ => simp (disch := omega) only [up2_ne, up2_p, up2_at]; exact hh
            | 6, _ => simp (disch := omega) only [up2_ne, up2_p, up2_at]; exact hh
            | 7, _ => simp (disch := omega) only [up2_ne, up2_p, up2_at]; exact hh
            | _ + 8, hq => omega
          · have hh := hR.2 n h1 h2
            match n, h1, h2 with
            | 0, h1, _ => omega
            | 1, _, _ => simp (disch := omega) only [up2_ne, up2_p, up2_at, Nat.reduceMul, Nat.reduceAdd]
            | 2, _, _ => simp (disch := omega) only [up2_ne, up2_p, up2_at, Nat.reduceMul, Nat.reduceAdd]
            | 3, _, _ => simp (disch := omega) only [up2_ne, up2_p, up2_at]; exact hh
            | 4, _, _ => simp (disch := omega) only [up2_ne, up2_p, up2_at, Nat.reduceMul, Nat.reduceAdd]
            | 5, _, _ => simp (disch := omega) only [up2_ne, up2_p, up2_at]; exact hh
            | 6, _, _ => simp (disch := omega) only [up2_ne, up2_p, up2_at]; exact hh
            | 7, _, _ => simp (disch := omega) only [up2_ne, up2_p, up2_at]; exact hh
            | _ + 8, _, h2 => omega
      | 2, _ =>
        refine wp_iload_n (pc := 0) dX11_row_0 (by first | rfl | assumption | (repeat first | assumption | rfl | refine aG_n ?_ rfl rfl)) ?_
        refine wp_iconst (pc := 1) (v := 0) dX11_row_1 (by decide) ?_
        refine wp_bipush (pc := 2) (v := 7) dX11_row_2 (by decide) ?_
        refine wp_cS (pc := 4) dX11_row_4 lk_11_112 rfl rfl rfl (c_X11_isWithin (fun _ => aK_i ?_) (fun q => absurd c1 q))
        refine wp_if_eq (pc := 7) (tgt := 21) dX11_row_7 rfl (fun q => absurd q (by decide)) (fun _ => ?_)
        refine wp_iload_n (pc := 10) dX11_row_10 (by first | rfl | assumption | (repeat first | assumption | rfl | refine aG_n ?_ rfl rfl)) ?_
        refine wp_iconst (pc := 11) (v := 0) dX11_row_11 (by decide) ?_
        refine wp_sipush (pc := 12) (v := 999) dX11_row_12 (by decide) ?_
        refine wp_cS (pc := 15) dX11_row_15 lk_11_112 rfl rfl rfl (c_X11_isWithin (fun _ => aK_i ?_) (fun q => absurd c2 q))
        refine wp_if_ne (pc := 18) (tgt := 23) dX11_row_18 rfl (fun _ => ?_) (fun q => absurd q (by decide))
        refine wp_aload_n (pc := 23) dX11_row_23 (by first | rfl | assumption | (repeat first | assumption | rfl | refine aG_n ?_ rfl rfl)) ?_
        refine wp_getR (pc := 24) dX11_row_24 fl_11_60 (by first | rfl | assumption | exact sh_house (by omega) | exact sh_wish (by omega) | exact sh_wor (by omega) | exact sh_bar (by omega) | exact sh_term (by omega) | exact sh_sheet (by omega) | exact sh_items (by omega) | exact sh_sums (by omega)) rfl ?_
        refine wp_iload_n (pc := 27) dX11_row_27 (by first | rfl | assumption | (repeat first | assumption | rfl | refine aG_n ?_ rfl rfl)) ?_
        refine wp_iload_n (pc := 28) dX11_row_28 (by first | rfl | assumption | (repeat first | assumption | rfl | refine aG_n ?_ rfl rfl)) ?_
        refine wp_cV (pc := 29) dX11_row_29 lk_11_346 rfl (by decide) rfl (by first | rfl | assumption | exact sh_house (by omega) | exact sh_wish (by omega) | exact sh_wor (by omega) | exact sh_bar (by omega) | exact sh_term (by omega) | exact sh_sheet (by omega) | exact sh_items (by omega) | exact sh_sums (by omega)) rfl rfl ?_
        refine wp_aload_n (pc := 0) dX5_put_0 (by first | rfl | assumption | (repeat first | assumption | rfl | refine aG_n ?_ rfl rfl)) ?_
        refine wp_getR (pc := 1) dX5_put_1 fl_5_9 (by first | rfl | assumption | exact sh_house (by omega) | exact sh_wish (by omega) | exact sh_wor (by omega) | exact sh_bar (by omega) | exact sh_term (by omega) | exact sh_sheet (by omega) | exact sh_items (by omega) | exact sh_sums (by omega)) rfl ?_
        refine wp_bipush (pc := 4) (v := 8) dX5_put_4 (by decide) ?_
        refine wp_iload_n (pc := 6) dX5_put_6 (by first | rfl | assumption | (repeat first | assumption | rfl | refine aG_n ?_ rfl rfl)) ?_
        refine wp_iadd (pc := 7) dX5_put_7 ?_
        refine wp_ialdC (pc := 8) (j := 10) dX5_put_8 (by first | rfl | assumption | exact sh_house (by omega) | exact sh_wish (by omega) | exact sh_wor (by omega) | exact sh_bar (by omega) | exact sh_term (by omega) | exact sh_sheet (by omega) | exact sh_items (by omega) | exact sh_sums (by omega)) (by decide) (by decide) ?_
        refine wp_istore_n (pc := 9) dX5_put_9 (by decide) ?_
        refine wp_aload_n (pc := 10) dX5_put_10 (by first | rfl | assumption | (repeat first | assumption | rfl | refine aG_n ?_ rfl rfl)) ?_
        refine wp_getR (pc := 11) dX5_put_11 fl_5_9 (by first | rfl | assumption | exact sh_house (by omega) | exact sh_wish (by omega) | exact sh_wor (by omega) | exact sh_bar (by omega) | exact sh_term (by omega) | exact sh_sheet (by omega) | exact sh_items (by omega) | exact sh_sums (by omega)) rfl ?_
        refine wp_bipush (pc := 14) (v := 8) dX5_put_14 (by decide) ?_
        refine wp_iload_n (pc := 16) dX5_put_16 (by first | rfl | assumption | (repeat first | assumption | rfl | refine aG_n ?_ rfl rfl)) ?_
        refine wp_iadd (pc := 17) dX5_put_17 ?_
        refine wp_iload_n (pc := 18) dX5_put_18 (by first | rfl | assumption | (repeat first | assumption | rfl | refine aG_n ?_ rfl rfl)) ?_
        refine wp_iastC (pc := 19) (j := 10) dX5_put_19 (by first | rfl | assumption | exact sh_house (by omega) | exact sh_wish (by omega) | exact sh_wor (by omega) | exact sh_bar (by omega) | exact sh_term (by omega) | exact sh_sheet (by omega) | exact sh_items (by omega) | exact sh_sums (by omega)) (by decide) (by decide) ?_
        refine wp_bipush (pc := 20) (v := 8) dX5_put_20 (by decide) ?_
        refine wp_iload_n (pc := 22) dX5_put_22 (by first | rfl | assumption | (repeat first | assumption | rfl | refine aG_n ?_ rfl rfl)) ?_
        refine wp_iadd (pc := 23) dX5_put_23 ?_
        refine wp_iconst (pc := 24) (v := 2) dX5_put_24 (by decide) ?_
        refine wp_idiv (pc := 25) dX5_put_25 (by decide) ?_
        refine wp_istore (pc := 26) dX5_put_26 (by decide) ?_
        refine wp_iload (pc := 28) dX5_put_28 (by first | rfl | assumption | (repeat first | assumption | rfl | refine aG_n ?_ rfl rfl)) ?_
        refine wp_if_le (pc := 30) (tgt := 72) dX5_put_30 rfl (fun q => absurd q (by decide)) (fun _ => ?_)
        refine wp_aload_n (pc := 33) dX5_put_33 (by first | rfl | assumption | (repeat first | assumption | rfl | refine aG_n ?_ rfl rfl)) ?_
        refine wp_getR (pc := 34) dX5_put_34 fl_5_9 (by first | rfl | assumption | exact sh_house (by omega) | exact sh_wish (by omega) | exact sh_wor (by omega) | exact sh_bar (by omega) | exact sh_term (by omega) | exact sh_sheet (by omega) | exact sh_items (by omega) | exact sh_sums (by omega)) rfl ?_
        refine wp_iload (pc := 37) dX5_put_37 (by first | rfl | assumption | (repeat first | assumption | rfl | refine aG_n ?_ rfl rfl)) ?_
        refine wp_aload_n (pc := 39) dX5_put_39 (by first | rfl | assumption | (repeat first | assumption | rfl | refine aG_n ?_ rfl rfl)) ?_
        refine wp_getR (pc := 40) dX5_put_40 fl_5_9 (by first | rfl | assumption | exact sh_house (by omega) | exact sh_wish (by omega) | exact sh_wor (by omega) | exact sh_bar (by omega) | exact sh_term (by omega) | exact sh_sheet (by omega) | exact sh_items (by omega) | exact sh_sums (by omega)) rfl ?_
        refine wp_iconst (pc := 43) (v := 2) dX5_put_43 (by decide) ?_
        refine wp_iload (pc := 44) dX5_put_44 (by first | rfl | assumption | (repeat first | assumption | rfl | refine aG_n ?_ rfl rfl)) ?_
        refine wp_imul (pc := 46) dX5_put_46 ?_
        refine wp_ialdC (pc := 47) (j := 10) dX5_put_47 (by first | rfl | assumption | exact sh_house (by omega) | exact sh_wish (by omega) | exact sh_wor (by omega) | exact sh_bar (by omega) | exact sh_term (by omega) | exact sh_sheet (by omega) | exact sh_items (by omega) | exact sh_sums (by omega)) (by decide) (by decide) ?_
        refine wp_aload_n (pc := 48) dX5_put_48 (by first | rfl | assumption | (repeat first | assumption | rfl | refine aG_n ?_ rfl rfl)) ?_
        refine wp_getR (pc := 49) dX5_put_49 fl_5_9 (by first | rfl | assumption | exact sh_house (by omega) | exact sh_wish (by omega) | exact sh_wor (by omega) | exact sh_bar (by omega) | exact sh_term (by omega) | exact sh_sheet (by omega) | exact sh_items (by omega) | exact sh_sums (by omega)) rfl ?_
        refine wp_iconst (pc := 52) (v := 2) dX5_put_52 (by decide) ?_
        refine wp_iload (pc := 53) dX5_put_53 (by first | rfl | assumption | (repeat first | assumption | rfl | refine aG_n ?_ rfl rfl)) ?_
        refine wp_imul (pc := 55) dX5_put_55 ?_
        refine wp_iconst (pc := 56) (v := 1) dX5_put_56 (by decide) ?_
        refine wp_iadd (pc := 57) dX5_put_57 ?_
        refine wp_ialdC (pc := 58) (j := 11) dX5_put_58 (by first | rfl | assumption | exact sh_house (by omega) | exact sh_wish (by omega) | exact sh_wor (by omega) | exact sh_bar (by omega) | exact sh_term (by omega) | exact sh_sheet (by omega) | exact sh_items (by omega) | exact sh_sums (by omega)) (by decide) (by decide) ?_
        refine wp_cS (pc := 59) dX5_put_59 lk_5_13 rfl rfl rfl (c_X5_sum (aK_i ?_))
        refine wp_iastC (pc := 62) (j := 5) dX5_put_62 (by first | rfl | assumption | exact sh_house (by omega) | exact sh_wish (by omega) | exact sh_wor (by omega) | exact sh_bar (by omega) | exact sh_term (by omega) | exact sh_sheet (by omega) | exact sh_items (by omega) | exact sh_sums (by omega)) (by decide) (by decide) ?_
        refine wp_iload (pc := 63) dX5_put_63 (by first | rfl | assumption | (repeat first | assumption | rfl | refine aG_n ?_ rfl rfl)) ?_
        refine wp_iconst (pc := 65) (v := 2) dX5_put_65 (by decide) ?_
        refine wp_idiv (pc := 66) dX5_put_66 (by decide) ?_
        refine wp_istore (pc := 67) dX5_put_67 (by decide) ?_
        refine wp_goto (pc := 69) (tgt := 28) dX5_put_69 rfl ?_
        refine wp_iload (pc := 28) dX5_put_28 (by first | rfl | assumption | (repeat first | assumption | rfl | refine aG_n ?_ rfl rfl)) ?_
        refine wp_if_le (pc := 30) (tgt := 72) dX5_put_30 rfl (fun q => absurd q (by decide)) (fun _ => ?_)
        refine wp_aload_n (pc := 33) dX5_put_33 (by first | rfl | assumption | (repeat first | assumption | rfl | refine aG_n ?_ rfl rfl)) ?_
        refine wp_getR (pc := 34) dX5_put_34 fl_5_9 (by first | rfl | assumption | exact sh_house (by omega) | exact sh_wish (by omega) | exact sh_wor (by omega) | exact sh_bar (by omega) | exact sh_term (by omega) | exact sh_sheet (by omega) | exact sh_items (by omega) | exact sh_sums (by omega)) rfl ?_
        refine wp_iload (pc := 37) dX5_put_37 (by first | rfl | assumption | (repeat first | assumption | rfl | refine aG_n ?_ rfl rfl)) ?_
        refine wp_aload_n (pc := 39) dX5_put_39 (by first | rfl | assumption | (repeat first | assumption | rfl | refine aG_n ?_ rfl rfl)) ?_
        refine wp_getR (pc := 40) dX5_put_40 fl_5_9 (by first | rfl | assumption | exact sh_house (by omega) | exact sh_wish (by omega) | exact sh_wor (by omega) | exact sh_bar (by omega) | exact sh_term (by omega) | exact sh_sheet (by omega) | exact sh_items (by omega) | exact sh_sums (by omega)) rfl ?_
        refine wp_iconst (pc := 43) (v := 2) dX5_put_43 (by decide) ?_
        refine wp_iload (pc := 44) dX5_put_44 (by first | rfl | assumption | (repeat first | assumption | rfl | refine aG_n ?_ rfl rfl)) ?_
        refine wp_imul (pc := 46) dX5_put_46 ?_
        refine wp_ialdC (pc := 47) (j := 4) dX5_put_47 (by first | rfl | assumption | exact sh_house (by omega) | exact sh_wish (by omega) | exact sh_wor (by omega) | exact sh_bar (by omega) | exact sh_term (by omega) | exact sh_sheet (by omega) | exact sh_items (by omega) | exact sh_sums (by omega)) (by decide) (by decide) ?_
        refine wp_aload_n (pc := 48) dX5_put_48 (by first | rfl | assumption | (repeat first | assumption | rfl | refine aG_n ?_ rfl rfl)) ?_
        refine wp_getR (pc := 49) dX5_put_49 fl_5_9 (by first | rfl | assumption | exact sh_house (by omega) | exact sh_wish (by omega) | exact sh_wor (by omega) | exact sh_bar (by omega) | exact sh_term (by omega) | exact sh_sheet (by omega) | exact sh_items (by omega) | exact sh_sums (by omega)) rfl ?_
        refine wp_iconst (pc := 52) (v := 2) dX5_put_52 (by decide) ?_
        refine wp_iload (pc := 53) dX5_put_53 (by first | rfl | assumption | (repeat first | assumption | rfl | refine aG_n ?_ rfl rfl)) ?_
        refine wp_imul (pc := 55) dX5_put_55 ?_
        refine wp_iconst (pc := 56) (v := 1) dX5_put_56 (by decide) ?_
        refine wp_iadd (pc := 57) dX5_put_57 ?_
        refine wp_ialdC (pc := 58) (j := 5) dX5_put_58 (by first | rfl | assumption | exact sh_house (by omega) | exact sh_wish (by omega) | exact sh_wor (by omega) | exact sh_bar (by omega) | exact sh_term (by omega) | exact sh_sheet (by omega) | exact sh_items (by omega) | exact sh_sums (by omega)) (by decide) (by decide) ?_
        refine wp_cS (pc := 59) dX5_put_59 lk_5_13 rfl rfl rfl (c_X5_sum (aK_i ?_))
        refine wp_iastC (pc := 62) (j := 2) dX5_put_62 (by first | rfl | assumption | exact sh_house (by omega) | exact sh_wish (by omega) | exact sh_wor (by omega) | exact sh_bar (by omega) | exact sh_term (by omega) | exact sh_sheet (by omega) | exact sh_items (by omega) | exact sh_sums (by omega)) (by decide) (by decide) ?_
        refine wp_iload (pc := 63) dX5_put_63 (by first | rfl | assumption | (repeat first | assumption | rfl | refine aG_n ?_ rfl rfl)) ?_
        refine wp_iconst (pc := 65) (v := 2) dX5_put_65 (by decide) ?_
        refine wp_idiv (pc := 66) dX5_put_66 (by decide) ?_
        refine wp_istore (pc := 67) dX5_put_67 (by decide) ?_
        refine wp_goto (pc := 69) (tgt := 28) dX5_put_69 rfl ?_
        refine wp_iload (pc := 28) dX5_put_28 (by first | rfl | assumption | (repeat first | assumption | rfl | refine aG_n ?_ rfl rfl)) ?_
        refine wp_if_le (pc := 30) (tgt := 72) dX5_put_30 rfl (fun q => absurd q (by decide)) (fun _ => ?_)
        refine wp_aload_n (pc := 33) dX5_put_33 (by first | rfl | assumption | (repeat first | assumption | rfl | refine aG_n ?_ rfl rfl)) ?_
        refine wp_getR (pc := 34) dX5_put_34 fl_5_9 (by first | rfl | assumption | exact sh_house (by omega) | exact sh_wish (by omega) | exact sh_wor (by omega) | exact sh_bar (by omega) | exact sh_term (by omega) | exact sh_sheet (by omega) | exact sh_items (by omega) | exact sh_sums (by omega)) rfl ?_
        refine wp_iload (pc := 37) dX5_put_37 (by first | rfl | assumption | (repeat first | assumption | rfl | refine aG_n ?_ rfl rfl)) ?_
        refine wp_aload_n (pc := 39) dX5_put_39 (by first | rfl | assumption | (repeat first | assumption | rfl | refine aG_n ?_ rfl rfl)) ?_
        refine wp_getR (pc := 40) dX5_put_40 fl_5_9 (by first | rfl | assumption | exact sh_house (by omega) | exact sh_wish (by omega) | exact sh_wor (by omega) | exact sh_bar (by omega) | exact sh_term (by omega) | exact sh_sheet (by omega) | exact sh_items (by omega) | exact sh_sums (by omega)) rfl ?_
        refine wp_iconst (pc := 43) (v := 2) dX5_put_43 (by decide) ?_
        refine wp_iload (pc := 44) dX5_put_44 (by first | rfl | assumption | (repeat first | assumption | rfl | refine aG_n ?_ rfl rfl)) ?_
        refine wp_imul (pc := 46) dX5_put_46 ?_
        refine wp_ialdC (pc := 47) (j := 2) dX5_put_47 (by first | rfl | assumption | exact sh_house (by omega) | exact sh_wish (by omega) | exact sh_wor (by omega) | exact sh_bar (by omega) | exact sh_term (by omega) | exact sh_sheet (by omega) | exact sh_items (by omega) | exact sh_sums (by omega)) (by decide) (by decide) ?_
        refine wp_aload_n (pc := 48) dX5_put_48 (by first | rfl | assumption | (repeat first | assumption | rfl | refine aG_n ?_ rfl rfl)) ?_
        refine wp_getR (pc := 49) dX5_put_49 fl_5_9 (by first | rfl | assumption | exact sh_house (by omega) | exact sh_wish (by omega) | exact sh_wor (by omega) | exact sh_bar (by omega) | exact sh_term (by omega) | exact sh_sheet (by omega) | exact sh_items (by omega) | exact sh_sums (by omega)) rfl ?_
        refine wp_iconst (pc := 52) (v := 2) dX5_put_52 (by decide) ?_
        refine wp_iload (pc := 53) dX5_put_53 (by first | rfl | assumption | (repeat first | assumption | rfl | refine aG_n ?_ rfl rfl)) ?_
        refine wp_imul (pc := 55) dX5_put_55 ?_
        refine wp_iconst (pc := 56) (v := 1) dX5_put_56 (by decide) ?_
        refine wp_iadd (pc := 57) dX5_put_57 ?_
        refine wp_ialdC (pc := 58) (j := 3) dX5_put_58 (by first | rfl | assumption | exact sh_house (by omega) | exact sh_wish (by omega) | exact sh_wor (by omega) | exact sh_bar (by omega) | exact sh_term (by omega) | exact sh_sheet (by omega) | exact sh_items (by omega) | exact sh_sums (by omega)) (by decide) (by decide) ?_
        refine wp_cS (pc := 59) dX5_put_59 lk_5_13 rfl rfl rfl (c_X5_sum (aK_i ?_))
        refine wp_iastC (pc := 62) (j := 1) dX5_put_62 (by first | rfl | assumption | exact sh_house (by omega) | exact sh_wish (by omega) | exact sh_wor (by omega) | exact sh_bar (by omega) | exact sh_term (by omega) | exact sh_sheet (by omega) | exact sh_items (by omega) | exact sh_sums (by omega)) (by decide) (by decide) ?_
        refine wp_iload (pc := 63) dX5_put_63 (by first | rfl | assumption | (repeat first | assumption | rfl | refine aG_n ?_ rfl rfl)) ?_
        refine wp_iconst (pc := 65) (v := 2) dX5_put_65 (by decide) ?_
        refine wp_idiv (pc := 66) dX5_put_66 (by decide) ?_
        refine wp_istore (pc := 67) dX5_put_67 (by decide) ?_
        refine wp_goto (pc := 69) (tgt := 28) dX5_put_69 rfl ?_
        refine wp_iload (pc := 28) dX5_put_28 (by first | rfl | assumption | (repeat first | assumption | rfl | refine aG_n ?_ rfl rfl)) ?_
        refine wp_if_le (pc := 30) (tgt := 72) dX5_put_30 rfl (fun _ => ?_) (fun q => absurd q (by decide))
        refine wp_iload_n (pc := 72) dX5_put_72 (by first | rfl | assumption | (repeat first | assumption | rfl | refine aG_n ?_ rfl rfl)) ?_
        refine wp_iretK (pc := 73) dX5_put_73 rfl (by first | rfl | decide | assumption) ?_
        refine wp_ireturn (pc := 32) dX11_row_32 rfl (by first | rfl | decide | assumption) ?_
        refine k _ _ (fun Q' k' => ?_)
        refine wp_iload_n (pc := 0) dX12_row_0 (by first | rfl | assumption | (repeat first | assumption | rfl | refine aG_n ?_ rfl rfl)) ?_
        refine wp_i2l (pc := 1) dX12_row_1 ?_
        refine wp_lconst (pc := 2) (v := 0) dX12_row_2 (by decide) ?_
        refine wp_ldc2 (pc := 3) dX12_row_3 cl_12_347 ?_
        refine wp_cS (pc := 6) dX12_row_6 lk_12_133 rfl rfl rfl (c_X12_in (fun _ => aK_i ?_) (fun q => absurd (by rw [w_int]; exact c1) q))
        refine wp_if_eq (pc := 9) (tgt := 24) dX12_row_9 rfl (fun q => absurd q (by decide)) (fun _ => ?_)
        refine wp_iload_n (pc := 12) dX12_row_12 (by first | rfl | assumption | (repeat first | assumption | rfl | refine aG_n ?_ rfl rfl)) ?_
        refine wp_i2l (pc := 13) dX12_row_13 ?_
        refine wp_lconst (pc := 14) (v := 0) dX12_row_14 (by decide) ?_
        refine wp_ldc2 (pc := 15) dX12_row_15 cl_12_216 ?_
        refine wp_cS (pc := 18) dX12_row_18 lk_12_133 rfl rfl rfl (c_X12_in (fun _ => aK_i ?_) (fun q => absurd (by rw [w_int]; exact c2) q))
        refine wp_if_ne (pc := 21) (tgt := 26) dX12_row_21 rfl (fun _ => ?_) (fun q => absurd q (by decide))
        refine wp_aload_n (pc := 26) dX12_row_26 (by first | rfl | assumption | (repeat first | assumption | rfl | refine aG_n ?_ rfl rfl)) ?_
        refine wp_getR (pc := 27) dX12_row_27 fl_12_119 (by first | rfl | assumption | exact sh_house (by omega) | exact sh_wish (by omega) | exact sh_wor (by omega) | exact sh_bar (by omega) | exact sh_term (by omega) | exact sh_sheet (by omega) | exact sh_items (by omega) | exact sh_sums (by omega)) rfl ?_
        refine wp_iload_n (pc := 30) dX12_row_30 (by first | rfl | assumption | (repeat first | assumption | rfl | refine aG_n ?_ rfl rfl)) ?_
        refine wp_ialdC (pc := 31) (j := 2) dX12_row_31 (by first | rfl | assumption | exact sh_house (by omega) | exact sh_wish (by omega) | exact sh_wor (by omega) | exact sh_bar (by omega) | exact sh_term (by omega) | exact sh_sheet (by omega) | exact sh_items (by omega) | exact sh_sums (by omega)) (by decide) (by decide) ?_
        refine wp_istore_n (pc := 32) dX12_row_32 (by decide) ?_
        refine wp_aload_n (pc := 33) dX12_row_33 (by first | rfl | assumption | (repeat first | assumption | rfl | refine aG_n ?_ rfl rfl)) ?_
        refine wp_getR (pc := 34) dX12_row_34 fl_12_119 (by first | rfl | assumption | exact sh_house (by omega) | exact sh_wish (by omega) | exact sh_wor (by omega) | exact sh_bar (by omega) | exact sh_term (by omega) | exact sh_sheet (by omega) | exact sh_items (by omega) | exact sh_sums (by omega)) rfl ?_
        refine wp_iload_n (pc := 37) dX12_row_37 (by first | rfl | assumption | (repeat first | assumption | rfl | refine aG_n ?_ rfl rfl)) ?_
        refine wp_iload_n (pc := 38) dX12_row_38 (by first | rfl | assumption | (repeat first | assumption | rfl | refine aG_n ?_ rfl rfl)) ?_
        refine wp_iastC (pc := 39) (j := 2) dX12_row_39 (by first | rfl | assumption | exact sh_house (by omega) | exact sh_wish (by omega) | exact sh_wor (by omega) | exact sh_bar (by omega) | exact sh_term (by omega) | exact sh_sheet (by omega) | exact sh_items (by omega) | exact sh_sums (by omega)) (by decide) (by decide) ?_
        refine wp_iload_n (pc := 40) dX12_row_40 (by first | rfl | assumption | (repeat first | assumption | rfl | refine aG_n ?_ rfl rfl)) ?_
        refine wp_ireturn (pc := 41) dX12_row_41 rfl (by first | rfl | decide | assumption) ?_
        refine qEq ?_ (k' _ ?_)
        · simp (disch := omega) only [up2_ne]
          exact (hR.1 2 (by omega)).1.symm
        · refine ⟨own_c (by simp (disch := omega) only [up2_ne, fil_ne]) (fun i9 hi9 => (by simp (disch := omega) only [up2_ne, up2_p, fil_ne, fil_p])) (hI.1), coin_c (by simp (disch := omega) only [up2_ne, fil_ne]) (fun i9 hi9 => (by simp (disch := omega) only [up2_ne, up2_p, fil_ne, fil_p])) (hI.2.1), lev_c ⟨(by simp (disch := omega) only [up2_ne, fil_ne]), (by simp (disch := omega) only [up2_ne, fil_ne]), (by simp (disch := omega) only [up2_ne, fil_ne])⟩ (fun i9 hi9 => ⟨(by simp (disch := omega) only [up2_ne, up2_p, fil_ne, fil_p]), (by simp (disch := omega) only [up2_ne, up2_p, fil_ne, fil_p]), (by simp (disch := omega) only [up2_ne, up2_p, fil_ne, fil_p])⟩) (hI.2.2.1), wish_c ⟨(by simp (disch := omega) only [up2_ne, fil_ne]), (by simp (disch := omega) only [up2_ne, fil_ne]), (by simp (disch := omega) only [up2_ne, fil_ne]), (by simp (disch := omega) only [up2_ne, fil_ne])⟩ (fun i9 hi9 => ⟨(by simp (disch := omega) only [up2_ne, fil_ne]), (by simp (disch := omega) only [up2_ne, fil_ne]), (by simp (disch := omega) only [up2_ne, fil_ne])⟩) (hI.2.2.2.1), tape_c (by simp (disch := omega) only [up2_ne, up2_p, fil_ne, fil_p]) (by simp (disch := omega) only [up2_ne, up2_p, fil_ne, fil_p]) (by simp (disch := omega) only [up2_ne, fil_ne]) (by simp (disch := omega) only [up2_ne, fil_ne]) (hI.2.2.2.2.1), talk_c ⟨(by simp (disch := omega) only [up2_ne, fil_ne]), (by simp (disch := omega) only [up2_ne, fil_ne]), (by simp (disch := omega) only [up2_ne, fil_ne]), (by simp (disch := omega) only [up2_ne, fil_ne]), (by simp (disch := omega) only [up2_ne, fil_ne])⟩ ⟨(by simp (disch := omega) only [up2_ne, fil_ne]), (by simp (disch := omega) only [up2_ne, fil_ne]), (by simp (disch := omega) only [up2_ne, fil_ne])⟩ (fun j9 hj9 hk9 => (by simp (disch := omega) only [up2_ne, up2_p, fil_ne, fil_p])) (fun o9 => ⟨(by simp (disch := omega) only [up2_ne, fil_ne]), (by simp (disch := omega) only [up2_ne, fil_ne])⟩) rfl (hI.2.2.2.2.2.1), led_c (by simp (disch := omega) only [up2_ne, up2_p, fil_ne, fil_p]) (by simp (disch := omega) only [up2_ne, up2_p, fil_ne, fil_p]) (fun i9 hi9 => (by simp (disch := omega) only [up2_ne, fil_ne])) (fun c9 hc9 hd9 => (by simp (disch := omega) only [up2_ne, fil_ne])) ⟨(by simp (disch := omega) only [up2_ne, fil_ne]), (by simp (disch := omega) only [up2_ne, fil_ne])⟩ (hI.2.2.2.2.2.2.1), ?_, sheet_c ⟨(by simp (disch := omega) only [up2_ne, fil_ne]), (by simp (disch := omega) only [up2_ne, fil_ne]), (by simp (disch := omega) only [up2_ne, fil_ne])⟩ (fun s9 hs9 => ⟨(by simp (disch := omega) only [up2_ne, fil_ne]), (by simp (disch := omega) only [up2_ne, fil_ne])⟩) (hI.2.2.2.2.2.2.2.2.1), grp_c (by simp (disch := omega) only [up2_ne, up2_p, fil_ne, fil_p]) (fun g9 hg9 => (by simp (disch := omega) only [up2_ne, fil_ne])) (fun i9 hi9 => ⟨(by simp (disch := omega) only [up2_ne, fil_ne]), (by simp (disch := omega) only [up2_ne, fil_ne])⟩) (hI.2.2.2.2.2.2.2.2.2)⟩
          refine ⟨fun q hq => ?_, fun n h1 h2 => ?_⟩
          · have hh := hR.1 q hq
            match q, hq with
            | 0, _ => simp (disch := omega) only [up2_ne, up2_p, up2_at]; exact hh
            | 1, _ => simp (disch := omega) only [up2_ne, up2_p, up2_at]; exact hh
            | 2, _ => exact ⟨by simp (disch := omega) only [up2_ne, up2_p, up2_at], by simp (disch := omega) only [up2_ne, up2_p, up2_at]; exact c2⟩
            | 3, _ => simp (disch := omega) only [up2_ne, up2_p, up2_at]; exact hh
            | 4, _ => simp (disch := omega) only [up2_ne, up2_p, up2_at]; exact hh
            | 5, _ => simp (disch := omega) only [up2_ne, up2_p, up2_at]; exact hh
            | 6, _ => simp (disch := omega) only [up2_ne, up2_p, up2_at]; exact hh
            | 7, _ => simp (disch := omega) only [up2_ne, up2_p, up2_at]; exact hh
            | _ + 8, hq => omega
          · have hh := hR.2 n h1 h2
            match n, h1, h2 with
            | 0, h1, _ => omega
            | 1, _, _ => simp (disch := omega) only [up2_ne, up2_p, up2_at, Nat.reduceMul, Nat.reduceAdd]
            | 2, _, _ => simp (disch := omega) only [up2_ne, up2_p, up2_at, Nat.reduceMul, Nat.reduceAdd]
            | 3, _, _ => simp (disch := omega) only [up2_ne, up2_p, up2_at]; exact hh
            | 4, _, _ => simp (disch := omega) only [up2_ne, up2_p, up2_at]; exact hh
            | 5, _, _ => simp (disch := omega) only [up2_ne, up2_p, up2_at, Nat.reduceMul, Nat.reduceAdd]
            | 6, _, _ => simp (disch := omega) only [up2_ne, up2_p, up2_at]; exact hh
            | 7, _, _ => simp (disch := omega) only [up2_ne, up2_p, up2_at]; exact hh
            | _ + 8, _, h2 => omega
      | 3, _ =>
        refine wp_iload_n (pc := 0) dX11_row_0 (by first | rfl | assumption | (repeat first | assumption | rfl | refine aG_n ?_ rfl rfl)) ?_
        refine wp_iconst (pc := 1) (v := 0) dX11_row_1 (by decide) ?_
        refine wp_bipush (pc := 2) (v := 7) dX11_row_2 (by decide) ?_
        refine wp_cS (pc := 4) dX11_row_4 lk_11_112 rfl rfl rfl (c_X11_isWithin (fun _ => aK_i ?_) (fun q => absurd c1 q))
        refine wp_if_eq (pc := 7) (tgt := 21) dX11_row_7 rfl (fun q => absurd q (by decide)) (fun _ => ?_)
        refine wp_iload_n (pc := 10) dX11_row_10 (by first | rfl | assumption | (repeat first | assumption | rfl | refine aG_n ?_ rfl rfl)) ?_
        refine wp_iconst (pc := 11) (v := 0) dX11_row_11 (by decide) ?_
        refine wp_sipush (pc := 12) (v := 999) dX11_row_12 (by decide) ?_
        refine wp_cS (pc := 15) dX11_row_15 lk_11_112 rfl rfl rfl (c_X11_isWithin (fun _ => aK_i ?_) (fun q => absurd c2 q))
        refine wp_if_ne (pc := 18) (tgt := 23) dX11_row_18 rfl (fun _ => ?_) (fun q => absurd q (by decide))
        refine wp_aload_n (pc := 23) dX11_row_23 (by first | rfl | assumption | (repeat first | assumption | rfl | refine aG_n ?_ rfl rfl)) ?_
        refine wp_getR (pc := 24) dX11_row_24 fl_11_60 (by first | rfl | assumption | exact sh_house (by omega) | exact sh_wish (by omega) | exact sh_wor (by omega) | exact sh_bar (by omega) | exact sh_term (by omega) | exact sh_sheet (by omega) | exact sh_items (by omega) | exact sh_sums (by omega)) rfl ?_
        refine wp_iload_n (pc := 27) dX11_row_27 (by first | rfl | assumption | (repeat first | assumption | rfl | refine aG_n ?_ rfl rfl)) ?_
        refine wp_iload_n (pc := 28) dX11_row_28 (by first | rfl | assumption | (repeat first | assumption | rfl | refine aG_n ?_ rfl rfl)) ?_
        refine wp_cV (pc := 29) dX11_row_29 lk_11_346 rfl (by decide) rfl (by first | rfl | assumption | exact sh_house (by omega) | exact sh_wish (by omega) | exact sh_wor (by omega) | exact sh_bar (by omega) | exact sh_term (by omega) | exact sh_sheet (by omega) | exact sh_items (by omega) | exact sh_sums (by omega)) rfl rfl ?_
        refine wp_aload_n (pc := 0) dX5_put_0 (by first | rfl | assumption | (repeat first | assumption | rfl | refine aG_n ?_ rfl rfl)) ?_
        refine wp_getR (pc := 1) dX5_put_1 fl_5_9 (by first | rfl | assumption | exact sh_house (by omega) | exact sh_wish (by omega) | exact sh_wor (by omega) | exact sh_bar (by omega) | exact sh_term (by omega) | exact sh_sheet (by omega) | exact sh_items (by omega) | exact sh_sums (by omega)) rfl ?_
        refine wp_bipush (pc := 4) (v := 8) dX5_put_4 (by decide) ?_
        refine wp_iload_n (pc := 6) dX5_put_6 (by first | rfl | assumption | (repeat first | assumption | rfl | refine aG_n ?_ rfl rfl)) ?_
        refine wp_iadd (pc := 7) dX5_put_7 ?_
        refine wp_ialdC (pc := 8) (j := 11) dX5_put_8 (by first | rfl | assumption | exact sh_house (by omega) | exact sh_wish (by omega) | exact sh_wor (by omega) | exact sh_bar (by omega) | exact sh_term (by omega) | exact sh_sheet (by omega) | exact sh_items (by omega) | exact sh_sums (by omega)) (by decide) (by decide) ?_
        refine wp_istore_n (pc := 9) dX5_put_9 (by decide) ?_
        refine wp_aload_n (pc := 10) dX5_put_10 (by first | rfl | assumption | (repeat first | assumption | rfl | refine aG_n ?_ rfl rfl)) ?_
        refine wp_getR (pc := 11) dX5_put_11 fl_5_9 (by first | rfl | assumption | exact sh_house (by omega) | exact sh_wish (by omega) | exact sh_wor (by omega) | exact sh_bar (by omega) | exact sh_term (by omega) | exact sh_sheet (by omega) | exact sh_items (by omega) | exact sh_sums (by omega)) rfl ?_
        refine wp_bipush (pc := 14) (v := 8) dX5_put_14 (by decide) ?_
        refine wp_iload_n (pc := 16) dX5_put_16 (by first | rfl | assumption | (repeat first | assumption | rfl | refine aG_n ?_ rfl rfl)) ?_
        refine wp_iadd (pc := 17) dX5_put_17 ?_
        refine wp_iload_n (pc := 18) dX5_put_18 (by first | rfl | assumption | (repeat first | assumption | rfl | refine aG_n ?_ rfl rfl)) ?_
        refine wp_iastC (pc := 19) (j := 11) dX5_put_19 (by first | rfl | assumption | exact sh_house (by omega) | exact sh_wish (by omega) | exact sh_wor (by omega) | exact sh_bar (by omega) | exact sh_term (by omega) | exact sh_sheet (by omega) | exact sh_items (by omega) | exact sh_sums (by omega)) (by decide) (by decide) ?_
        refine wp_bipush (pc := 20) (v := 8) dX5_put_20 (by decide) ?_
        refine wp_iload_n (pc := 22) dX5_put_22 (by first | rfl | assumption | (repeat first | assumption | rfl | refine aG_n ?_ rfl rfl)) ?_
        refine wp_iadd (pc := 23) dX5_put_23 ?_
        refine wp_iconst (pc := 24) (v := 2) dX5_put_24 (by decide) ?_
        refine wp_idiv (pc := 25) dX5_put_25 (by decide) ?_
        refine wp_istore (pc := 26) dX5_put_26 (by decide) ?_
        refine wp_iload (pc := 28) dX5_put_28 (by first | rfl | assumption | (repeat first | assumption | rfl | refine aG_n ?_ rfl rfl)) ?_
        refine wp_if_le (pc := 30) (tgt := 72) dX5_put_30 rfl (fun q => absurd q (by decide)) (fun _ => ?_)
        refine wp_aload_n (pc := 33) dX5_put_33 (by first | rfl | assumption | (repeat first | assumption | rfl | refine aG_n ?_ rfl rfl)) ?_
        refine wp_getR (pc := 34) dX5_put_34 fl_5_9 (by first | rfl | assumption | exact sh_house (by omega) | exact sh_wish (by omega) | exact sh_wor (by omega) | exact sh_bar (by omega) | exact sh_term (by omega) | exact sh_sheet (by omega) | exact sh_items (by omega) | exact sh_sums (by omega)) rfl ?_
        refine wp_iload (pc := 37) dX5_put_37 (by first | rfl | assumption | (repeat first | assumption | rfl | refine aG_n ?_ rfl rfl)) ?_
        refine wp_aload_n (pc := 39) dX5_put_39 (by first | rfl | assumption | (repeat first | assumption | rfl | refine aG_n ?_ rfl rfl)) ?_
        refine wp_getR (pc := 40) dX5_put_40 fl_5_9 (by first | rfl | assumption | exact sh_house (by omega) | exact sh_wish (by omega) | exact sh_wor (by omega) | exact sh_bar (by omega) | exact sh_term (by omega) | exact sh_sheet (by omega) | exact sh_items (by omega) | exact sh_sums (by omega)) rfl ?_
        refine wp_iconst (pc := 43) (v := 2) dX5_put_43 (by decide) ?_
        refine wp_iload (pc := 44) dX5_put_44 (by first | rfl | assumption | (repeat first | assumption | rfl | refine aG_n ?_ rfl rfl)) ?_
        refine wp_imul (pc := 46) dX5_put_46 ?_
        refine wp_ialdC (pc := 47) (j := 10) dX5_put_47 (by first | rfl | assumption | exact sh_house (by omega) | exact sh_wish (by omega) | exact sh_wor (by omega) | exact sh_bar (by omega) | exact sh_term (by omega) | exact sh_sheet (by omega) | exact sh_items (by omega) | exact sh_sums (by omega)) (by decide) (by decide) ?_
        refine wp_aload_n (pc := 48) dX5_put_48 (by first | rfl | assumption | (repeat first | assumption | rfl | refine aG_n ?_ rfl rfl)) ?_
        refine wp_getR (pc := 49) dX5_put_49 fl_5_9 (by first | rfl | assumption | exact sh_house (by omega) | exact sh_wish (by omega) | exact sh_wor (by omega) | exact sh_bar (by omega) | exact sh_term (by omega) | exact sh_sheet (by omega) | exact sh_items (by omega) | exact sh_sums (by omega)) rfl ?_
        refine wp_iconst (pc := 52) (v := 2) dX5_put_52 (by decide) ?_
        refine wp_iload (pc := 53) dX5_put_53 (by first | rfl | assumption | (repeat first | assumption | rfl | refine aG_n ?_ rfl rfl)) ?_
        refine wp_imul (pc := 55) dX5_put_55 ?_
        refine wp_iconst (pc := 56) (v := 1) dX5_put_56 (by decide) ?_
        refine wp_iadd (pc := 57) dX5_put_57 ?_
        refine wp_ialdC (pc := 58) (j := 11) dX5_put_58 (by first | rfl | assumption | exact sh_house (by omega) | exact sh_wish (by omega) | exact sh_wor (by omega) | exact sh_bar (by omega) | exact sh_term (by omega) | exact sh_sheet (by omega) | exact sh_items (by omega) | exact sh_sums (by omega)) (by decide) (by decide) ?_
        refine wp_cS (pc := 59) dX5_put_59 lk_5_13 rfl rfl rfl (c_X5_sum (aK_i ?_))
        refine wp_iastC (pc := 62) (j := 5) dX5_put_62 (by first | rfl | assumption | exact sh_house (by omega) | exact sh_wish (by omega) | exact sh_wor (by omega) | exact sh_bar (by omega) | exact sh_term (by omega) | exact sh_sheet (by omega) | exact sh_items (by omega) | exact sh_sums (by omega)) (by decide) (by decide) ?_
        refine wp_iload (pc := 63) dX5_put_63 (by first | rfl | assumption | (repeat first | assumption | rfl | refine aG_n ?_ rfl rfl)) ?_
        refine wp_iconst (pc := 65) (v := 2) dX5_put_65 (by decide) ?_
        refine wp_idiv (pc := 66) dX5_put_66 (by decide) ?_
        refine wp_istore (pc := 67) dX5_put_67 (by decide) ?_
        refine wp_goto (pc := 69) (tgt := 28) dX5_put_69 rfl ?_
        refine wp_iload (pc := 28) dX5_put_28 (by first | rfl | assumption | (repeat first | assumption | rfl | refine aG_n ?_ rfl rfl)) ?_
        refine wp_if_le (pc := 30) (tgt := 72) dX5_put_30 rfl (fun q => absurd q (by decide)) (fun _ => ?_)
        refine wp_aload_n (pc := 33) dX5_put_33 (by first | rfl | assumption | (repeat first | assumption | rfl | refine aG_n ?_ rfl rfl)) ?_
        refine wp_getR (pc := 34) dX5_put_34 fl_5_9 (by first | rfl | assumption | exact sh_house (by omega) | exact sh_wish (by omega) | exact sh_wor (by omega) | exact sh_bar (by omega) | exact sh_term (by omega) | exact sh_sheet (by omega) | exact sh_items (by omega) | exact sh_sums (by omega)) rfl ?_
        refine wp_iload (pc := 37) dX5_put_37 (by first | rfl | assumption | (repeat first | assumption | rfl | refine aG_n ?_ rfl rfl)) ?_
        refine wp_aload_n (pc := 39) dX5_put_39 (by first | rfl | assumption | (repeat first | assumption | rfl | refine aG_n ?_ rfl rfl)) ?_
        refine wp_getR (pc := 40) dX5_put_40 fl_5_9 (by first | rfl | assumption | exact sh_house (by omega) | exact sh_wish (by omega) | exact sh_wor (by omega) | exact sh_bar (by omega) | exact sh_term (by omega) | exact sh_sheet (by omega) | exact sh_items (by omega) | exact sh_sums (by omega)) rfl ?_
        refine wp_iconst (pc := 43) (v := 2) dX5_put_43 (by decide) ?_
        refine wp_iload (pc := 44) dX5_put_44 (by first | rfl | assumption | (repeat first | assumption | rfl | refine aG_n ?_ rfl rfl)) ?_
        refine wp_imul (pc := 46) dX5_put_46 ?_
        refine wp_ialdC (pc := 47) (j := 4) dX5_put_47 (by first | rfl | assumption | exact sh_house (by omega) | exact sh_wish (by omega) | exact sh_wor (by omega) | exact sh_bar (by omega) | exact sh_term (by omega) | exact sh_sheet (by omega) | exact sh_items (by omega) | exact sh_sums (by omega)) (by decide) (by decide) ?_
        refine wp_aload_n (pc := 48) dX5_put_48 (by first | rfl | assumption | (repeat first | assumption | rfl | refine aG_n ?_ rfl rfl)) ?_
        refine wp_getR (pc := 49) dX5_put_49 fl_5_9 (by first | rfl | assumption | exact sh_house (by omega) | exact sh_wish (by omega) | exact sh_wor (by omega) | exact sh_bar (by omega) | exact sh_term (by omega) | exact sh_sheet (by omega) | exact sh_items (by omega) | exact sh_sums (by omega)) rfl ?_
        refine wp_iconst (pc := 52) (v := 2) dX5_put_52 (by decide) ?_
        refine wp_iload (pc := 53) dX5_put_53 (by first | rfl | assumption | (repeat first | assumption | rfl | refine aG_n ?_ rfl rfl)) ?_
        refine wp_imul (pc := 55) dX5_put_55 ?_
        refine wp_iconst (pc := 56) (v := 1) dX5_put_56 (by decide) ?_
        refine wp_iadd (pc := 57) dX5_put_57 ?_
        refine wp_ialdC (pc := 58) (j := 5) dX5_put_58 (by first | rfl | assumption | exact sh_house (by omega) | exact sh_wish (by omega) | exact sh_wor (by omega) | exact sh_bar (by omega) | exact sh_term (by omega) | exact sh_sheet (by omega) | exact sh_items (by omega) | exact sh_sums (by omega)) (by decide) (by decide) ?_
        refine wp_cS (pc := 59) dX5_put_59 lk_5_13 rfl rfl rfl (c_X5_sum (aK_i ?_))
        refine wp_iastC (pc := 62) (j := 2) dX5_put_62 (by first | rfl | assumption | exact sh_house (by omega) | exact sh_wish (by omega) | exact sh_wor (by omega) | exact sh_bar (by omega) | exact sh_term (by omega) | exact sh_sheet (by omega) | exact sh_items (by omega) | exact sh_sums (by omega)) (by decide) (by decide) ?_
        refine wp_iload (pc := 63) dX5_put_63 (by first | rfl | assumption | (repeat first | assumption | rfl | refine aG_n ?_ rfl rfl)) ?_
        refine wp_iconst (pc := 65) (v := 2) dX5_put_65 (by decide) ?_
        refine wp_idiv (pc := 66) dX5_put_66 (by decide) ?_
        refine wp_istore (pc := 67) dX5_put_67 (by decide) ?_
        refine wp_goto (pc := 69) (tgt := 28) dX5_put_69 rfl ?_
        refine wp_iload (pc := 28) dX5_put_28 (by first | rfl | assumption | (repeat first | assumption | rfl | refine aG_n ?_ rfl rfl)) ?_
        refine wp_if_le (pc := 30) (tgt := 72) dX5_put_30 rfl (fun q => absurd q (by decide)) (fun _ => ?_)
        refine wp_aload_n (pc := 33) dX5_put_33 (by first | rfl | assumption | (repeat first | assumption | rfl | refine aG_n ?_ rfl rfl)) ?_
        refine wp_getR (pc := 34) dX5_put_34 fl_5_9 (by first | rfl | assumption | exact sh_house (by omega) | exact sh_wish (by omega) | exact sh_wor (by omega) | exact sh_bar (by omega) | exact sh_term (by omega) | exact sh_sheet (by omega) | exact sh_items (by omega) | exact sh_sums (by omega)) rfl ?_
        refine wp_iload (pc := 37) dX5_put_37 (by first | rfl | assumption | (repeat first | assumption | rfl | refine aG_n ?_ rfl rfl)) ?_
        refine wp_aload_n (pc := 39) dX5_put_39 (by first | rfl | assumption | (repeat first | assumption | rfl | refine aG_n ?_ rfl rfl)) ?_
        refine wp_getR (pc := 40) dX5_put_40 fl_5_9 (by first | rfl | assumption | exact sh_house (by omega) | exact sh_wish (by omega) | exact sh_wor (by omega) | exact sh_bar (by omega) | exact sh_term (by omega) | exact sh_sheet (by omega) | exact sh_items (by omega) | exact sh_sums (by omega)) rfl ?_
        refine wp_iconst (pc := 43) (v := 2) dX5_put_43 (by decide) ?_
        refine wp_iload (pc := 44) dX5_put_44 (by first | rfl | assumption | (repeat first | assumption | rfl | refine aG_n ?_ rfl rfl)) ?_
        refine wp_imul (pc := 46) dX5_put_46 ?_
        refine wp_ialdC (pc := 47) (j := 2) dX5_put_47 (by first | rfl | assumption | exact sh_house (by omega) | exact sh_wish (by omega) | exact sh_wor (by omega) | exact sh_bar (by omega) | exact sh_term (by omega) | exact sh_sheet (by omega) | exact sh_items (by omega) | exact sh_sums (by omega)) (by decide) (by decide) ?_
        refine wp_aload_n (pc := 48) dX5_put_48 (by first | rfl | assumption | (repeat first | assumption | rfl | refine aG_n ?_ rfl rfl)) ?_
        refine wp_getR (pc := 49) dX5_put_49 fl_5_9 (by first | rfl | assumption | exact sh_house (by omega) | exact sh_wish (by omega) | exact sh_wor (by omega) | exact sh_bar (by omega) | exact sh_term (by omega) | exact sh_sheet (by omega) | exact sh_items (by omega) | exact sh_sums (by omega)) rfl ?_
        refine wp_iconst (pc := 52) (v := 2) dX5_put_52 (by decide) ?_
        refine wp_iload (pc := 53) dX5_put_53 (by first | rfl | assumption | (repeat first | assumption | rfl | refine aG_n ?_ rfl rfl)) ?_
        refine wp_imul (pc := 55) dX5_put_55 ?_
        refine wp_iconst (pc := 56) (v := 1) dX5_put_56 (by decide) ?_
        refine wp_iadd (pc := 57) dX5_put_57 ?_
        refine wp_ialdC (pc := 58) (j := 3) dX5_put_58 (by first | rfl | assumption | exact sh_house (by omega) | exact sh_wish (by omega) | exact sh_wor (by omega) | exact sh_bar (by omega) | exact sh_term (by omega) | exact sh_sheet (by omega) | exact sh_items (by omega) | exact sh_sums (by omega)) (by decide) (by decide) ?_
        refine wp_cS (pc := 59) dX5_put_59 lk_5_13 rfl rfl rfl (c_X5_sum (aK_i ?_))
        refine wp_iastC (pc := 62) (j := 1) dX5_put_62 (by first | rfl | assumption | exact sh_house (by omega) | exact sh_wish (by omega) | exact sh_wor (by omega) | exact sh_bar (by omega) | exact sh_term (by omega) | exact sh_sheet (by omega) | exact sh_items (by omega) | exact sh_sums (by omega)) (by decide) (by decide) ?_
        refine wp_iload (pc := 63) dX5_put_63 (by first | rfl | assumption | (repeat first | assumption | rfl | refine aG_n ?_ rfl rfl)) ?_
        refine wp_iconst (pc := 65) (v := 2) dX5_put_65 (by decide) ?_
        refine wp_idiv (pc := 66) dX5_put_66 (by decide) ?_
        refine wp_istore (pc := 67) dX5_put_67 (by decide) ?_
        refine wp_goto (pc := 69) (tgt := 28) dX5_put_69 rfl ?_
        refine wp_iload (pc := 28) dX5_put_28 (by first | rfl | assumption | (repeat first | assumption | rfl | refine aG_n ?_ rfl rfl)) ?_
        refine wp_if_le (pc := 30) (tgt := 72) dX5_put_30 rfl (fun _ => ?_) (fun q => absurd q (by decide))
        refine wp_iload_n (pc := 72) dX5_put_72 (by first | rfl | assumption | (repeat first | assumption | rfl | refine aG_n ?_ rfl rfl)) ?_
        refine wp_iretK (pc := 73) dX5_put_73 rfl (by first | rfl | decide | assumption) ?_
        refine wp_ireturn (pc := 32) dX11_row_32 rfl (by first | rfl | decide | assumption) ?_
        refine k _ _ (fun Q' k' => ?_)
        refine wp_iload_n (pc := 0) dX12_row_0 (by first | rfl | assumption | (repeat first | assumption | rfl | refine aG_n ?_ rfl rfl)) ?_
        refine wp_i2l (pc := 1) dX12_row_1 ?_
        refine wp_lconst (pc := 2) (v := 0) dX12_row_2 (by decide) ?_
        refine wp_ldc2 (pc := 3) dX12_row_3 cl_12_347 ?_
        refine wp_cS (pc := 6) dX12_row_6 lk_12_133 rfl rfl rfl (c_X12_in (fun _ => aK_i ?_) (fun q => absurd (by rw [w_int]; exact c1) q))
        refine wp_if_eq (pc := 9) (tgt := 24) dX12_row_9 rfl (fun q => absurd q (by decide)) (fun _ => ?_)
        refine wp_iload_n (pc := 12) dX12_row_12 (by first | rfl | assumption | (repeat first | assumption | rfl | refine aG_n ?_ rfl rfl)) ?_
        refine wp_i2l (pc := 13) dX12_row_13 ?_
        refine wp_lconst (pc := 14) (v := 0) dX12_row_14 (by decide) ?_
        refine wp_ldc2 (pc := 15) dX12_row_15 cl_12_216 ?_
        refine wp_cS (pc := 18) dX12_row_18 lk_12_133 rfl rfl rfl (c_X12_in (fun _ => aK_i ?_) (fun q => absurd (by rw [w_int]; exact c2) q))
        refine wp_if_ne (pc := 21) (tgt := 26) dX12_row_21 rfl (fun _ => ?_) (fun q => absurd q (by decide))
        refine wp_aload_n (pc := 26) dX12_row_26 (by first | rfl | assumption | (repeat first | assumption | rfl | refine aG_n ?_ rfl rfl)) ?_
        refine wp_getR (pc := 27) dX12_row_27 fl_12_119 (by first | rfl | assumption | exact sh_house (by omega) | exact sh_wish (by omega) | exact sh_wor (by omega) | exact sh_bar (by omega) | exact sh_term (by omega) | exact sh_sheet (by omega) | exact sh_items (by omega) | exact sh_sums (by omega)) rfl ?_
        refine wp_iload_n (pc := 30) dX12_row_30 (by first | rfl | assumption | (repeat first | assumption | rfl | refine aG_n ?_ rfl rfl)) ?_
        refine wp_ialdC (pc := 31) (j := 3) dX12_row_31 (by first | rfl | assumption | exact sh_house (by omega) | exact sh_wish (by omega) | exact sh_wor (by omega) | exact sh_bar (by omega) | exact sh_term (by omega) | exact sh_sheet (by omega) | exact sh_items (by omega) | exact sh_sums (by omega)) (by decide) (by decide) ?_
        refine wp_istore_n (pc := 32) dX12_row_32 (by decide) ?_
        refine wp_aload_n (pc := 33) dX12_row_33 (by first | rfl | assumption | (repeat first | assumption | rfl | refine aG_n ?_ rfl rfl)) ?_
        refine wp_getR (pc := 34) dX12_row_34 fl_12_119 (by first | rfl | assumption | exact sh_house (by omega) | exact sh_wish (by omega) | exact sh_wor (by omega) | exact sh_bar (by omega) | exact sh_term (by omega) | exact sh_sheet (by omega) | exact sh_items (by omega) | exact sh_sums (by omega)) rfl ?_
        refine wp_iload_n (pc := 37) dX12_row_37 (by first | rfl | assumption | (repeat first | assumption | rfl | refine aG_n ?_ rfl rfl)) ?_
        refine wp_iload_n (pc := 38) dX12_row_38 (by first | rfl | assumption | (repeat first | assumption | rfl | refine aG_n ?_ rfl rfl)) ?_
        refine wp_iastC (pc := 39) (j := 3) dX12_row_39 (by first | rfl | assumption | exact sh_house (by omega) | exact sh_wish (by omega) | exact sh_wor (by omega) | exact sh_bar (by omega) | exact sh_term (by omega) | exact sh_sheet (by omega) | exact sh_items (by omega) | exact sh_sums (by omega)) (by decide) (by decide) ?_
        refine wp_iload_n (pc := 40) dX12_row_40 (by first | rfl | assumption | (repeat first | assumption | rfl | refine aG_n ?_ rfl rfl)) ?_
        refine wp_ireturn (pc := 41) dX12_row_41 rfl (by first | rfl | decide | assumption) ?_
        refine qEq ?_ (k' _ ?_)
        · simp (disch := omega) only [up2_ne]
          exact (hR.1 3 (by omega)).1.symm
        · refine ⟨own_c (by simp (disch := omega) only [up2_ne, fil_ne]) (fun i9 hi9 => (by simp (disch := omega) only [up2_ne, up2_p, fil_ne, fil_p])) (hI.1), coin_c (by simp (disch := omega) only [up2_ne, fil_ne]) (fun i9 hi9 => (by simp (disch := omega) only [up2_ne, up2_p, fil_ne, fil_p])) (hI.2.1), lev_c ⟨(by simp (disch := omega) only [up2_ne, fil_ne]), (by simp (disch := omega) only [up2_ne, fil_ne]), (by simp (disch := omega) only [up2_ne, fil_ne])⟩ (fun i9 hi9 => ⟨(by simp (disch := omega) only [up2_ne, up2_p, fil_ne, fil_p]), (by simp (disch := omega) only [up2_ne, up2_p, fil_ne, fil_p]), (by simp (disch := omega) only [up2_ne, up2_p, fil_ne, fil_p])⟩) (hI.2.2.1), wish_c ⟨(by simp (disch := omega) only [up2_ne, fil_ne]), (by simp (disch := omega) only [up2_ne, fil_ne]), (by simp (disch := omega) only [up2_ne, fil_ne]), (by simp (disch := omega) only [up2_ne, fil_ne])⟩ (fun i9 hi9 => ⟨(by simp (disch := omega) only [up2_ne, fil_ne]), (by simp (disch := omega) only [up2_ne, fil_ne]), (by simp (disch := omega) only [up2_ne, fil_ne])⟩) (hI.2.2.2.1), tape_c (by simp (disch := omega) only [up2_ne, up2_p, fil_ne, fil_p]) (by simp (disch := omega) only [up2_ne, up2_p, fil_ne, fil_p]) (by simp (disch := omega) only [up2_ne, fil_ne]) (by simp (disch := omega) only [up2_ne, fil_ne]) (hI.2.2.2.2.1), talk_c ⟨(by simp (disch := omega) only [up2_ne, fil_ne]), (by simp (disch := omega) only [up2_ne, fil_ne]), (by simp (disch := omega) only [up2_ne, fil_ne]), (by simp (disch := omega) only [up2_ne, fil_ne]), (by simp (disch := omega) only [up2_ne, fil_ne])⟩ ⟨(by simp (disch := omega) only [up2_ne, fil_ne]), (by simp (disch := omega) only [up2_ne, fil_ne]), (by simp (disch := omega) only [up2_ne, fil_ne])⟩ (fun j9 hj9 hk9 => (by simp (disch := omega) only [up2_ne, up2_p, fil_ne, fil_p])) (fun o9 => ⟨(by simp (disch := omega) only [up2_ne, fil_ne]), (by simp (disch := omega) only [up2_ne, fil_ne])⟩) rfl (hI.2.2.2.2.2.1), led_c (by simp (disch := omega) only [up2_ne, up2_p, fil_ne, fil_p]) (by simp (disch := omega) only [up2_ne, up2_p, fil_ne, fil_p]) (fun i9 hi9 => (by simp (disch := omega) only [up2_ne, fil_ne])) (fun c9 hc9 hd9 => (by simp (disch := omega) only [up2_ne, fil_ne])) ⟨(by simp (disch := omega) only [up2_ne, fil_ne]), (by simp (disch := omega) only [up2_ne, fil_ne])⟩ (hI.2.2.2.2.2.2.1), ?_, sheet_c ⟨(by simp (disch := omega) only [up2_ne, fil_ne]), (by simp (disch := omega) only [up2_ne, fil_ne]), (by simp (disch := omega) only [up2_ne, fil_ne])⟩ (fun s9 hs9 => ⟨(by simp (disch := omega) only [up2_ne, fil_ne]), (by simp (disch := omega) only [up2_ne, fil_ne])⟩) (hI.2.2.2.2.2.2.2.2.1), grp_c (by simp (disch := omega) only [up2_ne, up2_p, fil_ne, fil_p]) (fun g9 hg9 => (by simp (disch := omega) only [up2_ne, fil_ne])) (fun i9 hi9 => ⟨(by simp (disch := omega) only [up2_ne, fil_ne]), (by simp (disch := omega) only [up2_ne, fil_ne])⟩) (hI.2.2.2.2.2.2.2.2.2)⟩
          refine ⟨fun q hq => ?_, fun n h1 h2 => ?_⟩
          · have hh := hR.1 q hq
            match q, hq with
            | 0, _ => simp (disch := omega) only [up2_ne, up2_p, up2_at]; exact hh
            | 1, _ => simp (disch := omega) only [up2_ne, up2_p, up2_at]; exact hh
            | 2, _ => simp (disch := omega) only [up2_ne, up2_p, up2_at]; exact hh
            | 3, _ => exact ⟨by simp (disch := omega) only [up2_ne, up2_p, up2_at], by simp (disch := omega) only [up2_ne, up2_p, up2_at]; exact c2⟩
            | 4, _ => simp (disch := omega) only [up2_ne, up2_p, up2_at]; exact hh
            | 5, _ => simp (disch := omega) only [up2_ne, up2_p, up2_at]; exact hh
            | 6, _ => simp (disch := omega) only [up2_ne, up2_p, up2_at]; exact hh
            | 7, _ => simp (disch := omega) only [up2_ne, up2_p, up2_at]; exact hh
            | _ + 8, hq => omega
          · have hh := hR.2 n h1 h2
            match n, h1, h2 with
            | 0, h1, _ => omega
            | 1, _, _ => simp (disch := omega) only [up2_ne, up2_p, up2_at, Nat.reduceMul, Nat.reduceAdd]
            | 2, _, _ => simp (disch := omega) only [up2_ne, up2_p, up2_at, Nat.reduceMul, Nat.reduceAdd]
            | 3, _, _ => simp (disch := omega) only [up2_ne, up2_p, up2_at]; exact hh
            | 4, _, _ => simp (disch := omega) only [up2_ne, up2_p, up2_at]; exact hh
            | 5, _, _ => simp (disch := omega) only [up2_ne, up2_p, up2_at, Nat.reduceMul, Nat.reduceAdd]
            | 6, _, _ => simp (disch := omega) only [up2_ne, up2_p, up2_at]; exact hh
            | 7, _, _ => simp (disch := omega) only [up2_ne, up2_p, up2_at]; exact hh
            | _ + 8, _, h2 => omega
      | 4, _ =>
        refine wp_iload_n (pc := 0) dX11_row_0 (by first | rfl | assumption | (repeat first | assumption | rfl | refine aG_n ?_ rfl rfl)) ?_
        refine wp_iconst (pc := 1) (v := 0) dX11_row_1 (by decide) ?_
        refine wp_bipush (pc := 2) (v := 7) dX11_row_2 (by decide) ?_
        refine wp_cS (pc := 4) dX11_row_4 lk_11_112 rfl rfl rfl (c_X11_isWithin (fun _ => aK_i ?_) (fun q => absurd c1 q))
        refine wp_if_eq (pc := 7) (tgt := 21) dX11_row_7 rfl (fun q => absurd q (by decide)) (fun _ => ?_)
        refine wp_iload_n (pc := 10) dX11_row_10 (by first | rfl | assumption | (repeat first | assumption | rfl | refine aG_n ?_ rfl rfl)) ?_
        refine wp_iconst (pc := 11) (v := 0) dX11_row_11 (by decide) ?_
        refine wp_sipush (pc := 12) (v := 999) dX11_row_12 (by decide) ?_
        refine wp_cS (pc := 15) dX11_row_15 lk_11_112 rfl rfl rfl (c_X11_isWithin (fun _ => aK_i ?_) (fun q => absurd c2 q))
        refine wp_if_ne (pc := 18) (tgt := 23) dX11_row_18 rfl (fun _ => ?_) (fun q => absurd q (by decide))
        refine wp_aload_n (pc := 23) dX11_row_23 (by first | rfl | assumption | (repeat first | assumption | rfl | refine aG_n ?_ rfl rfl)) ?_
        refine wp_getR (pc := 24) dX11_row_24 fl_11_60 (by first | rfl | assumption | exact sh_house (by omega) | exact sh_wish (by omega) | exact sh_wor (by omega) | exact sh_bar (by omega) | exact sh_term (by omega) | exact sh_sheet (by omega) | exact sh_items (by omega) | exact sh_sums (by omega)) rfl ?_
        refine wp_iload_n (pc := 27) dX11_row_27 (by first | rfl | assumption | (repeat first | assumption | rfl | refine aG_n ?_ rfl rfl)) ?_
        refine wp_iload_n (pc := 28) dX11_row_28 (by first | rfl | assumption | (repeat first | assumption | rfl | refine aG_n ?_ rfl rfl)) ?_
        refine wp_cV (pc := 29) dX11_row_29 lk_11_346 rfl (by decide) rfl (by first | rfl | assumption | exact sh_house (by omega) | exact sh_wish (by omega) | exact sh_wor (by omega) | exact sh_bar (by omega) | exact sh_term (by omega) | exact sh_sheet (by omega) | exact sh_items (by omega) | exact sh_sums (by omega)) rfl rfl ?_
        refine wp_aload_n (pc := 0) dX5_put_0 (by first | rfl | assumption | (repeat first | assumption | rfl | refine aG_n ?_ rfl rfl)) ?_
        refine wp_getR (pc := 1) dX5_put_1 fl_5_9 (by first | rfl | assumption | exact sh_house (by omega) | exact sh_wish (by omega) | exact sh_wor (by omega) | exact sh_bar (by omega) | exact sh_term (by omega) | exact sh_sheet (by omega) | exact sh_items (by omega) | exact sh_sums (by omega)) rfl ?_
        refine wp_bipush (pc := 4) (v := 8) dX5_put_4 (by decide) ?_
        refine wp_iload_n (pc := 6) dX5_put_6 (by first | rfl | assumption | (repeat first | assumption | rfl | refine aG_n ?_ rfl rfl)) ?_
        refine wp_iadd (pc := 7) dX5_put_7 ?_
        refine wp_ialdC (pc := 8) (j := 12) dX5_put_8 (by first | rfl | assumption | exact sh_house (by omega) | exact sh_wish (by omega) | exact sh_wor (by omega) | exact sh_bar (by omega) | exact sh_term (by omega) | exact sh_sheet (by omega) | exact sh_items (by omega) | exact sh_sums (by omega)) (by decide) (by decide) ?_
        refine wp_istore_n (pc := 9) dX5_put_9 (by decide) ?_
        refine wp_aload_n (pc := 10) dX5_put_10 (by first | rfl | assumption | (repeat first | assumption | rfl | refine aG_n ?_ rfl rfl)) ?_
        refine wp_getR (pc := 11) dX5_put_11 fl_5_9 (by first | rfl | assumption | exact sh_house (by omega) | exact sh_wish (by omega) | exact sh_wor (by omega) | exact sh_bar (by omega) | exact sh_term (by omega) | exact sh_sheet (by omega) | exact sh_items (by omega) | exact sh_sums (by omega)) rfl ?_
        refine wp_bipush (pc := 14) (v := 8) dX5_put_14 (by decide) ?_
        refine wp_iload_n (pc := 16) dX5_put_16 (by first | rfl | assumption | (repeat first | assumption | rfl | refine aG_n ?_ rfl rfl)) ?_
        refine wp_iadd (pc := 17) dX5_put_17 ?_
        refine wp_iload_n (pc := 18) dX5_put_18 (by first | rfl | assumption | (repeat first | assumption | rfl | refine aG_n ?_ rfl rfl)) ?_
        refine wp_iastC (pc := 19) (j := 12) dX5_put_19 (by first | rfl | assumption | exact sh_house (by omega) | exact sh_wish (by omega) | exact sh_wor (by omega) | exact sh_bar (by omega) | exact sh_term (by omega) | exact sh_sheet (by omega) | exact sh_items (by omega) | exact sh_sums (by omega)) (by decide) (by decide) ?_
        refine wp_bipush (pc := 20) (v := 8) dX5_put_20 (by decide) ?_
        refine wp_iload_n (pc := 22) dX5_put_22 (by first | rfl | assumption | (repeat first | assumption | rfl | refine aG_n ?_ rfl rfl)) ?_
        refine wp_iadd (pc := 23) dX5_put_23 ?_
        refine wp_iconst (pc := 24) (v := 2) dX5_put_24 (by decide) ?_
        refine wp_idiv (pc := 25) dX5_put_25 (by decide) ?_
        refine wp_istore (pc := 26) dX5_put_26 (by decide) ?_
        refine wp_iload (pc := 28) dX5_put_28 (by first | rfl | assumption | (repeat first | assumption | rfl | refine aG_n ?_ rfl rfl)) ?_
        refine wp_if_le (pc := 30) (tgt := 72) dX5_put_30 rfl (fun q => absurd q (by decide)) (fun _ => ?_)
        refine wp_aload_n (pc := 33) dX5_put_33 (by first | rfl | assumption | (repeat first | assumption | rfl | refine aG_n ?_ rfl rfl)) ?_
        refine wp_getR (pc := 34) dX5_put_34 fl_5_9 (by first | rfl | assumption | exact sh_house (by omega) | exact sh_wish (by omega) | exact sh_wor (by omega) | exact sh_bar (by omega) | exact sh_term (by omega) | exact sh_sheet (by omega) | exact sh_items (by omega) | exact sh_sums (by omega)) rfl ?_
        refine wp_iload (pc := 37) dX5_put_37 (by first | rfl | assumption | (repeat first | assumption | rfl | refine aG_n ?_ rfl rfl)) ?_
        refine wp_aload_n (pc := 39) dX5_put_39 (by first | rfl | assumption | (repeat first | assumption | rfl | refine aG_n ?_ rfl rfl)) ?_
        refine wp_getR (pc := 40) dX5_put_40 fl_5_9 (by first | rfl | assumption | exact sh_house (by omega) | exact sh_wish (by omega) | exact sh_wor (by omega) | exact sh_bar (by omega) | exact sh_term (by omega) | exact sh_sheet (by omega) | exact sh_items (by omega) | exact sh_sums (by omega)) rfl ?_
        refine wp_iconst (pc := 43) (v := 2) dX5_put_43 (by decide) ?_
        refine wp_iload (pc := 44) dX5_put_44 (by first | rfl | assumption | (repeat first | assumption | rfl | refine aG_n ?_ rfl rfl)) ?_
        refine wp_imul (pc := 46) dX5_put_46 ?_
        refine wp_ialdC (pc := 47) (j := 12) dX5_put_47 (by first | rfl | assumption | exact sh_house (by omega) | exact sh_wish (by omega) | exact sh_wor (by omega) | exact sh_bar (by omega) | exact sh_term (by omega) | exact sh_sheet (by omega) | exact sh_items (by omega) | exact sh_sums (by omega)) (by decide) (by decide) ?_
        refine wp_aload_n (pc := 48) dX5_put_48 (by first | rfl | assumption | (repeat first | assumption | rfl | refine aG_n ?_ rfl rfl)) ?_
        refine wp_getR (pc := 49) dX5_put_49 fl_5_9 (by first | rfl | assumption | exact sh_house (by omega) | exact sh_wish (by omega) | exact sh_wor (by omega) | exact sh_bar (by omega) | exact sh_term (by omega) | exact sh_sheet (by omega) | exact sh_items (by omega) | exact sh_sums (by omega)) rfl ?_
        refine wp_iconst (pc := 52) (v := 2) dX5_put_52 (by decide) ?_
        refine wp_iload (pc := 53) dX5_put_53 (by first | rfl | assumption | (repeat first | assumption | rfl | refine aG_n ?_ rfl rfl)) ?_
        refine wp_imul (pc := 55) dX5_put_55 ?_
        refine wp_iconst (pc := 56) (v := 1) dX5_put_56 (by decide) ?_
        refine wp_iadd (pc := 57) dX5_put_57 ?_
        refine wp_ialdC (pc := 58) (j := 13) dX5_put_58 (by first | rfl | assumption | exact sh_house (by omega) | exact sh_wish (by omega) | exact sh_wor (by omega) | exact sh_bar (by omega) | exact sh_term (by omega) | exact sh_sheet (by omega) | exact sh_items (by omega) | exact sh_sums (by omega)) (by decide) (by decide) ?_
        refine wp_cS (pc := 59) dX5_put_59 lk_5_13 rfl rfl rfl (c_X5_sum (aK_i ?_))
        refine wp_iastC (pc := 62) (j := 6) dX5_put_62 (by first | rfl | assumption | exact sh_house (by omega) | exact sh_wish (by omega) | exact sh_wor (by omega) | exact sh_bar (by omega) | exact sh_term (by omega) | exact sh_sheet (by omega) | exact sh_items (by omega) | exact sh_sums (by omega)) (by decide) (by decide) ?_
        refine wp_iload (pc := 63) dX5_put_63 (by first | rfl | assumption | (repeat first | assumption | rfl | refine aG_n ?_ rfl rfl)) ?_
        refine wp_iconst (pc := 65) (v := 2) dX5_put_65 (by decide) ?_
        refine wp_idiv (pc := 66) dX5_put_66 (by decide) ?_
        refine wp_istore (pc := 67) dX5_put_67 (by decide) ?_
        refine wp_goto (pc := 69) (tgt := 28) dX5_put_69 rfl ?_
        refine wp_iload (pc := 28) dX5_put_28 (by first | rfl | assumption | (repeat first | assumption | rfl | refine aG_n ?_ rfl rfl)) ?_
        refine wp_if_le (pc := 30) (tgt := 72) dX5_put_30 rfl (fun q => absurd q (by decide)) (fun _ => ?_)
        refine wp_aload_n (pc := 33) dX5_put_33 (by first | rfl | assumption | (repeat first | assumption | rfl | refine aG_n ?_ rfl rfl)) ?_
        refine wp_getR (pc := 34) dX5_put_34 fl_5_9 (by first | rfl | assumption | exact sh_house (by omega) | exact sh_wish (by omega) | exact sh_wor (by omega) | exact sh_bar (by omega) | exact sh_term (by omega) | exact sh_sheet (by omega) | exact sh_items (by omega) | exact sh_sums (by omega)) rfl ?_
        refine wp_iload (pc := 37) dX5_put_37 (by first | rfl | assumption | (repeat first | assumption | rfl | refine aG_n ?_ rfl rfl)) ?_
        refine wp_aload_n (pc := 39) dX5_put_39 (by first | rfl | assumption | (repeat first | assumption | rfl | refine aG_n ?_ rfl rfl)) ?_
        refine wp_getR (pc := 40) dX5_put_40 fl_5_9 (by first | rfl | assumption | exact sh_house (by omega) | exact sh_wish (by omega) | exact sh_wor (by omega) | exact sh_bar (by omega) | exact sh_term (by omega) | exact sh_sheet (by omega) | exact sh_items (by omega) | exact sh_sums (by omega)) rfl ?_
        refine wp_iconst (pc := 43) (v := 2) dX5_put_43 (by decide) ?_
        refine wp_iload (pc := 44) dX5_put_44 (by first | rfl | assumption | (repeat first | assumption | rfl | refine aG_n ?_ rfl rfl)) ?_
        refine wp_imul (pc := 46) dX5_put_46 ?_
        refine wp_ialdC (pc := 47) (j := 6) dX5_put_47 (by first | rfl | assumption | exact sh_house (by omega) | exact sh_wish (by omega) | exact sh_wor (by omega) | exact sh_bar (by omega) | exact sh_term (by omega) | exact sh_sheet (by omega) | exact sh_items (by omega) | exact sh_sums (by omega)) (by decide) (by decide) ?_
        refine wp_aload_n (pc := 48) dX5_put_48 (by first | rfl | assumption | (repeat first | assumption | rfl | refine aG_n ?_ rfl rfl)) ?_
        refine wp_getR (pc := 49) dX5_put_49 fl_5_9 (by first | rfl | assumption | exact sh_house (by omega) | exact sh_wish (by omega) | exact sh_wor (by omega) | exact sh_bar (by omega) | exact sh_term (by omega) | exact sh_sheet (by omega) | exact sh_items (by omega) | exact sh_sums (by omega)) rfl ?_
        refine wp_iconst (pc := 52) (v := 2) dX5_put_52 (by decide) ?_
        refine wp_iload (pc := 53) dX5_put_53 (by first | rfl | assumption | (repeat first | assumption | rfl | refine aG_n ?_ rfl rfl)) ?_
        refine wp_imul (pc := 55) dX5_put_55 ?_
        refine wp_iconst (pc := 56) (v := 1) dX5_put_56 (by decide) ?_
        refine wp_iadd (pc := 57) dX5_put_57 ?_
        refine wp_ialdC (pc := 58) (j := 7) dX5_put_58 (by first | rfl | assumption | exact sh_house (by omega) | exact sh_wish (by omega) | exact sh_wor (by omega) | exact sh_bar (by omega) | exact sh_term (by omega) | exact sh_sheet (by omega) | exact sh_items (by omega) | exact sh_sums (by omega)) (by decide) (by decide) ?_
        refine wp_cS (pc := 59) dX5_put_59 lk_5_13 rfl rfl rfl (c_X5_sum (aK_i ?_))
        refine wp_iastC (pc := 62) (j := 3) dX5_put_62 (by first | rfl | assumption | exact sh_house (by omega) | exact sh_wish (by omega) | exact sh_wor (by omega) | exact sh_bar (by omega) | exact sh_term (by omega) | exact sh_sheet (by omega) | exact sh_items (by omega) | exact sh_sums (by omega)) (by decide) (by decide) ?_
        refine wp_iload (pc := 63) dX5_put_63 (by first | rfl | assumption | (repeat first | assumption | rfl | refine aG_n ?_ rfl rfl)) ?_
        refine wp_iconst (pc := 65) (v := 2) dX5_put_65 (by decide) ?_
        refine wp_idiv (pc := 66) dX5_put_66 (by decide) ?_
        refine wp_istore (pc := 67) dX5_put_67 (by decide) ?_
        refine wp_goto (pc := 69) (tgt := 28) dX5_put_69 rfl ?_
        refine wp_iload (pc := 28) dX5_put_28 (by first | rfl | assumption | (repeat first | assumption | rfl | refine aG_n ?_ rfl rfl)) ?_
        refine wp_if_le (pc := 30) (tgt := 72) dX5_put_30 rfl (fun q => absurd q (by decide)) (fun _ => ?_)
        refine wp_aload_n (pc := 33) dX5_put_33 (by first | rfl | assumption | (repeat first | assumption | rfl | refine aG_n ?_ rfl rfl)) ?_
        refine wp_getR (pc := 34) dX5_put_34 fl_5_9 (by first | rfl | assumption | exact sh_house (by omega) | exact sh_wish (by omega) | exact sh_wor (by omega) | exact sh_bar (by omega) | exact sh_term (by omega) | exact sh_sheet (by omega) | exact sh_items (by omega) | exact sh_sums (by omega)) rfl ?_
        refine wp_iload (pc := 37) dX5_put_37 (by first | rfl | assumption | (repeat first | assumption | rfl | refine aG_n ?_ rfl rfl)) ?_
        refine wp_aload_n (pc := 39) dX5_put_39 (by first | rfl | assumption | (repeat first | assumption | rfl | refine aG_n ?_ rfl rfl)) ?_
        refine wp_getR (pc := 40) dX5_put_40 fl_5_9 (by first | rfl | assumption | exact sh_house (by omega) | exact sh_wish (by omega) | exact sh_wor (by omega) | exact sh_bar (by omega) | exact sh_term (by omega) | exact sh_sheet (by omega) | exact sh_items (by omega) | exact sh_sums (by omega)) rfl ?_
        refine wp_iconst (pc := 43) (v := 2) dX5_put_43 (by decide) ?_
        refine wp_iload (pc := 44) dX5_put_44 (by first | rfl | assumption | (repeat first | assumption | rfl | refine aG_n ?_ rfl rfl)) ?_
        refine wp_imul (pc := 46) dX5_put_46 ?_
        refine wp_ialdC (pc := 47) (j := 2) dX5_put_47 (by first | rfl | assumption | exact sh_house (by omega) | exact sh_wish (by omega) | exact sh_wor (by omega) | exact sh_bar (by omega) | exact sh_term (by omega) | exact sh_sheet (by omega) | exact sh_items (by omega) | exact sh_sums (by omega)) (by decide) (by decide) ?_
        refine wp_aload_n (pc := 48) dX5_put_48 (by first | rfl | assumption | (repeat first | assumption | rfl | refine aG_n ?_ rfl rfl)) ?_
        refine wp_getR (pc := 49) dX5_put_49 fl_5_9 (by first | rfl | assumption | exact sh_house (by omega) | exact sh_wish (by omega) | exact sh_wor (by omega) | exact sh_bar (by omega) | exact sh_term (by omega) | exact sh_sheet (by omega) | exact sh_items (by omega) | exact sh_sums (by omega)) rfl ?_
        refine wp_iconst (pc := 52) (v := 2) dX5_put_52 (by decide) ?_
        refine wp_iload (pc := 53) dX5_put_53 (by first | rfl | assumption | (repeat first | assumption | rfl | refine aG_n ?_ rfl rfl)) ?_
        refine wp_imul (pc := 55) dX5_put_55 ?_
        refine wp_iconst (pc := 56) (v := 1) dX5_put_56 (by decide) ?_
        refine wp_iadd (pc := 57) dX5_put_57 ?_
        refine wp_ialdC (pc := 58) (j := 3) dX5_put_58 (by first | rfl | assumption | exact sh_house (by omega) | exact sh_wish (by omega) | exact sh_wor (by omega) | exact sh_bar (by omega) | exact sh_term (by omega) | exact sh_sheet (by omega) | exact sh_items (by omega) | exact sh_sums (by omega)) (by decide) (by decide) ?_
        refine wp_cS (pc := 59) dX5_put_59 lk_5_13 rfl rfl rfl (c_X5_sum (aK_i ?_))
        refine wp_iastC (pc := 62) (j := 1) dX5_put_62 (by first | rfl | assumption | exact sh_house (by omega) | exact sh_wish (by omega) | exact sh_wor (by omega) | exact sh_bar (by omega) | exact sh_term (by omega) | exact sh_sheet (by omega) | exact sh_items (by omega) | exact sh_sums (by omega)) (by decide) (by decide) ?_
        refine wp_iload (pc := 63) dX5_put_63 (by first | rfl | assumption | (repeat first | assumption | rfl | refine aG_n ?_ rfl rfl)) ?_
        refine wp_iconst (pc := 65) (v := 2) dX5_put_65 (by decide) ?_
        refine wp_idiv (pc := 66) dX5_put_66 (by decide) ?_
        refine wp_istore (pc := 67) dX5_put_67 (by decide) ?_
        refine wp_goto (pc := 69) (tgt := 28) dX5_put_69 rfl ?_
        refine wp_iload (pc := 28) dX5_put_28 (by first | rfl | assumption | (repeat first | assumption | rfl | refine aG_n ?_ rfl rfl)) ?_
        refine wp_if_le (pc := 30) (tgt := 72) dX5_put_30 rfl (fun _ => ?_) (fun q => absurd q (by decide))
        refine wp_iload_n (pc := 72) dX5_put_72 (by first | rfl | assumption | (repeat first | assumption | rfl | refine aG_n ?_ rfl rfl)) ?_
        refine wp_iretK (pc := 73) dX5_put_73 rfl (by first | rfl | decide | assumption) ?_
        refine wp_ireturn (pc := 32) dX11_row_32 rfl (by first | rfl | decide | assumption) ?_
        refine k _ _ (fun Q' k' => ?_)
        refine wp_iload_n (pc := 0) dX12_row_0 (by first | rfl | assumption | (repeat first | assumption | rfl | refine aG_n ?_ rfl rfl)) ?_
        refine wp_i2l (pc := 1) dX12_row_1 ?_
        refine wp_lconst (pc := 2) (v := 0) dX12_row_2 (by decide) ?_
        refine wp_ldc2 (pc := 3) dX12_row_3 cl_12_347 ?_
        refine wp_cS (pc := 6) dX12_row_6 lk_12_133 rfl rfl rfl (c_X12_in (fun _ => aK_i ?_) (fun q => absurd (by rw [w_int]; exact c1) q))
        refine wp_if_eq (pc := 9) (tgt := 24) dX12_row_9 rfl (fun q => absurd q (by decide)) (fun _ => ?_)
        refine wp_iload_n (pc := 12) dX12_row_12 (by first | rfl | assumption | (repeat first | assumption | rfl | refine aG_n ?_ rfl rfl)) ?_
        refine wp_i2l (pc := 13) dX12_row_13 ?_
        refine wp_lconst (pc := 14) (v := 0) dX12_row_14 (by decide) ?_
        refine wp_ldc2 (pc := 15) dX12_row_15 cl_12_216 ?_
        refine wp_cS (pc := 18) dX12_row_18 lk_12_133 rfl rfl rfl (c_X12_in (fun _ => aK_i ?_) (fun q => absurd (by rw [w_int]; exact c2) q))
        refine wp_if_ne (pc := 21) (tgt := 26) dX12_row_21 rfl (fun _ => ?_) (fun q => absurd q (by decide))
        refine wp_aload_n (pc := 26) dX12_row_26 (by first | rfl | assumption | (repeat first | assumption | rfl | refine aG_n ?_ rfl rfl)) ?_
        refine wp_getR (pc := 27) dX12_row_27 fl_12_119 (by first | rfl | assumption | exact sh_house (by omega) | exact sh_wish (by omega) | exact sh_wor (by omega) | exact sh_bar (by omega) | exact sh_term (by omega) | exact sh_sheet (by omega) | exact sh_items (by omega) | exact sh_sums (by omega)) rfl ?_
        refine wp_iload_n (pc := 30) dX12_row_30 (by first | rfl | assumption | (repeat first | assumption | rfl | refine aG_n ?_ rfl rfl)) ?_
        refine wp_ialdC (pc := 31) (j := 4) dX12_row_31 (by first | rfl | assumption | exact sh_house (by omega) | exact sh_wish (by omega) | exact sh_wor (by omega) | exact sh_bar (by omega) | exact sh_term (by omega) | exact sh_sheet (by omega) | exact sh_items (by omega) | exact sh_sums (by omega)) (by decide) (by decide) ?_
        refine wp_istore_n (pc := 32) dX12_row_32 (by decide) ?_
        refine wp_aload_n (pc := 33) dX12_row_33 (by first | rfl | assumption | (repeat first | assumption | rfl | refine aG_n ?_ rfl rfl)) ?_
        refine wp_getR (pc := 34) dX12_row_34 fl_12_119 (by first | rfl | assumption | exact sh_house (by omega) | exact sh_wish (by omega) | exact sh_wor (by omega) | exact sh_bar (by omega) | exact sh_term (by omega) | exact sh_sheet (by omega) | exact sh_items (by omega) | exact sh_sums (by omega)) rfl ?_
        refine wp_iload_n (pc := 37) dX12_row_37 (by first | rfl | assumption | (repeat first | assumption | rfl | refine aG_n ?_ rfl rfl)) ?_
        refine wp_iload_n (pc := 38) dX12_row_38 (by first | rfl | assumption | (repeat first | assumption | rfl | refine aG_n ?_ rfl rfl)) ?_
        refine wp_iastC (pc := 39) (j := 4) dX12_row_39 (by first | rfl | assumption | exact sh_house (by omega) | exact sh_wish (by omega) | exact sh_wor (by omega) | exact sh_bar (by omega) | exact sh_term (by omega) | exact sh_sheet (by omega) | exact sh_items (by omega) | exact sh_sums (by omega)) (by decide) (by decide) ?_
        refine wp_iload_n (pc := 40) dX12_row_40 (by first | rfl | assumption | (repeat first | assumption | rfl | refine aG_n ?_ rfl rfl)) ?_
        refine wp_ireturn (pc := 41) dX12_row_41 rfl (by first | rfl | decide | assumption) ?_
        refine qEq ?_ (k' _ ?_)
        · simp (disch := omega) only [up2_ne]
          exact (hR.1 4 (by omega)).1.symm
        · refine ⟨own_c (by simp (disch := omega) only [up2_ne, fil_ne]) (fun i9 hi9 => (by simp (disch := omega) only [up2_ne, up2_p, fil_ne, fil_p])) (hI.1), coin_c (by simp (disch := omega) only [up2_ne, fil_ne]) (fun i9 hi9 => (by simp (disch := omega) only [up2_ne, up2_p, fil_ne, fil_p])) (hI.2.1), lev_c ⟨(by simp (disch := omega) only [up2_ne, fil_ne]), (by simp (disch := omega) only [up2_ne, fil_ne]), (by simp (disch := omega) only [up2_ne, fil_ne])⟩ (fun i9 hi9 => ⟨(by simp (disch := omega) only [up2_ne, up2_p, fil_ne, fil_p]), (by simp (disch := omega) only [up2_ne, up2_p, fil_ne, fil_p]), (by simp (disch := omega) only [up2_ne, up2_p, fil_ne, fil_p])⟩) (hI.2.2.1), wish_c ⟨(by simp (disch := omega) only [up2_ne, fil_ne]), (by simp (disch := omega) only [up2_ne, fil_ne]), (by simp (disch := omega) only [up2_ne, fil_ne]), (by simp (disch := omega) only [up2_ne, fil_ne])⟩ (fun i9 hi9 => ⟨(by simp (disch := omega) only [up2_ne, fil_ne]), (by simp (disch := omega) only [up2_ne, fil_ne]), (by simp (disch := omega) only [up2_ne, fil_ne])⟩) (hI.2.2.2.1), tape_c (by simp (disch := omega) only [up2_ne, up2_p, fil_ne, fil_p]) (by simp (disch := omega) only [up2_ne, up2_p, fil_ne, fil_p]) (by simp (disch := omega) only [up2_ne, fil_ne]) (by simp (disch := omega) only [up2_ne, fil_ne]) (hI.2.2.2.2.1), talk_c ⟨(by simp (disch := omega) only [up2_ne, fil_ne]), (by simp (disch := omega) only [up2_ne, fil_ne]), (by simp (disch := omega) only [up2_ne, fil_ne]), (by simp (disch := omega) only [up2_ne, fil_ne]), (by simp (disch := omega) only [up2_ne, fil_ne])⟩ ⟨(by simp (disch := omega) only [up2_ne, fil_ne]), (by simp (disch := omega) only [up2_ne, fil_ne]), (by simp (disch := omega) only [up2_ne, fil_ne])⟩ (fun j9 hj9 hk9 => (by simp (disch := omega) only [up2_ne, up2_p, fil_ne, fil_p])) (fun o9 => ⟨(by simp (disch := omega) only [up2_ne, fil_ne]), (by simp (disch := omega) only [up2_ne, fil_ne])⟩) rfl (hI.2.2.2.2.2.1), led_c (by simp (disch := omega) only [up2_ne, up2_p, fil_ne, fil_p]) (by simp (disch := omega) only [up2_ne, up2_p, fil_ne, fil_p]) (fun i9 hi9 => (by simp (disch := omega) only [up2_ne, fil_ne])) (fun c9 hc9 hd9 => (by simp (disch := omega) only [up2_ne, fil_ne])) ⟨(by simp (disch := omega) only [up2_ne, fil_ne]), (by simp (disch := omega) only [up2_ne, fil_ne])⟩ (hI.2.2.2.2.2.2.1), ?_, sheet_c ⟨(by simp (disch := omega) only [up2_ne, fil_ne]), (by simp (disch := omega) only [up2_ne, fil_ne]), (by simp (disch := omega) only [up2_ne, fil_ne])⟩ (fun s9 hs9 => ⟨(by simp (disch := omega) only [up2_ne, fil_ne]), (by simp (disch := omega) only [up2_ne, fil_ne])⟩) (hI.2.2.2.2.2.2.2.2.1), grp_c (by simp (disch := omega) only [up2_ne, up2_p, fil_ne, fil_p]) (fun g9 hg9 => (by simp (disch := omega) only [up2_ne, fil_ne])) (fun i9 hi9 => ⟨(by simp (disch := omega) only [up2_ne, fil_ne]), (by simp (disch := omega) only [up2_ne, fil_ne])⟩) (hI.2.2.2.2.2.2.2.2.2)⟩
          refine ⟨fun q hq => ?_, fun n h1 h2 => ?_⟩
          · have hh := hR.1 q hq
            match q, hq with
            | 0, _ => simp (disch := omega) only [up2_ne, up2_p, up2_at]; exact hh
            | 1, _ => simp (disch := omega) only [up2_ne, up2_p, up2_at]; exact hh
            | 2, _ => simp (disch := omega) only [up2_ne, up2_p, up2_at]; exact hh
            | 3, _ => simp (disch := omega) only [up2_ne, up2_p, up2_at]; exact hh
            | 4, _ => exact ⟨by simp (disch := omega) only [up2_ne, up2_p, up2_at], by simp (disch := omega) only [up2_ne, up2_p, up2_at]; exact c2⟩
            | 5, _ => simp (disch := omega) only [up2_ne, up2_p, up2_at]; exact hh
            | 6, _ => simp (disch := omega) only [up2_ne, up2_p, up2_at]; exact hh
            | 7, _ => simp (disch := omega) only [up2_ne, up2_p, up2_at]; exact hh
            | _ + 8, hq => omega
          · have hh := hR.2 n h1 h2
            match n, h1, h2 with
            | 0, h1, _ => omega
            | 1, _, _ => simp (disch := omega) only [up2_ne, up2_p, up2_at, Nat.reduceMul, Nat.reduceAdd]
            | 2, _, _ => simp (disch := omega) only [up2_ne, up2_p, up2_at]; exact hh
            | 3, _, _ => simp (disch := omega) only [up2_ne, up2_p, up2_at, Nat.reduceMul, Nat.reduceAdd]
            | 4, _, _ => simp (disch := omega) only [up2_ne, up2_p, up2_at]; exact hh
            | 5, _, _ => simp (disch := omega) only [up2_ne, up2_p, up2_at]; exact hh
            | 6, _, _ => simp (disch := omega) only [up2_ne, up2_p, up2_at, Nat.reduceMul, Nat.reduceAdd]
            | 7, _, _ => simp (disch := omega) only [up2_ne, up2_p, up2_at]; exact hh
            | _ + 8, _, h2 => omega
      | 5, _ =>
        refine wp_iload_n (pc := 0) dX11_row_0 (by first | rfl | assumption | (repeat first | assumption | rfl | refine aG_n ?_ rfl rfl)) ?_
        refine wp_iconst (pc := 1) (v := 0) dX11_row_1 (by decide) ?_
        refine wp_bipush (pc := 2) (v := 7) dX11_row_2 (by decide) ?_
        refine wp_cS (pc := 4) dX11_row_4 lk_11_112 rfl rfl rfl (c_X11_isWithin (fun _ => aK_i ?_) (fun q => absurd c1 q))
        refine wp_if_eq (pc := 7) (tgt := 21) dX11_row_7 rfl (fun q => absurd q (by decide)) (fun _ => ?_)
        refine wp_iload_n (pc := 10) dX11_row_10 (by first | rfl | assumption | (repeat first | assumption | rfl | refine aG_n ?_ rfl rfl)) ?_
        refine wp_iconst (pc := 11) (v := 0) dX11_row_11 (by decide) ?_
        refine wp_sipush (pc := 12) (v := 999) dX11_row_12 (by decide) ?_
        refine wp_cS (pc := 15) dX11_row_15 lk_11_112 rfl rfl rfl (c_X11_isWithin (fun _ => aK_i ?_) (fun q => absurd c2 q))
        refine wp_if_ne (pc := 18) (tgt := 23) dX11_row_18 rfl (fun _ => ?_) (fun q => absurd q (by decide))
        refine wp_aload_n (pc := 23) dX11_row_23 (by first | rfl | assumption | (repeat first | assumption | rfl | refine aG_n ?_ rfl rfl)) ?_
        refine wp_getR (pc := 24) dX11_row_24 fl_11_60 (by first | rfl | assumption | exact sh_house (by omega) | exact sh_wish (by omega) | exact sh_wor (by omega) | exact sh_bar (by omega) | exact sh_term (by omega) | exact sh_sheet (by omega) | exact sh_items (by omega) | exact sh_sums (by omega)) rfl ?_
        refine wp_iload_n (pc := 27) dX11_row_27 (by first | rfl | assumption | (repeat first | assumption | rfl | refine aG_n ?_ rfl rfl)) ?_
        refine wp_iload_n (pc := 28) dX11_row_28 (by first | rfl | assumption | (repeat first | assumption | rfl | refine aG_n ?_ rfl rfl)) ?_
        refine wp_cV (pc := 29) dX11_row_29 lk_11_346 rfl (by decide) rfl (by first | rfl | assumption | exact sh_house (by omega) | exact sh_wish (by omega) | exact sh_wor (by omega) | exact sh_bar (by omega) | exact sh_term (by omega) | exact sh_sheet (by omega) | exact sh_items (by omega) | exact sh_sums (by omega)) rfl rfl ?_
        refine wp_aload_n (pc := 0) dX5_put_0 (by first | rfl | assumption | (repeat first | assumption | rfl | refine aG_n ?_ rfl rfl)) ?_
        refine wp_getR (pc := 1) dX5_put_1 fl_5_9 (by first | rfl | assumption | exact sh_house (by omega) | exact sh_wish (by omega) | exact sh_wor (by omega) | exact sh_bar (by omega) | exact sh_term (by omega) | exact sh_sheet (by omega) | exact sh_items (by omega) | exact sh_sums (by omega)) rfl ?_
        refine wp_bipush (pc := 4) (v := 8) dX5_put_4 (by decide) ?_
        refine wp_iload_n (pc := 6) dX5_put_6 (by first | rfl | assumption | (repeat first | assumption | rfl | refine aG_n ?_ rfl rfl)) ?_
        refine wp_iadd (pc := 7) dX5_put_7 ?_
        refine wp_ialdC (pc := 8) (j := 13) dX5_put_8 (by first | rfl | assumption | exact sh_house (by omega) | exact sh_wish (by omega) | exact sh_wor (by omega) | exact sh_bar (by omega) | exact sh_term (by omega) | exact sh_sheet (by omega) | exact sh_items (by omega) | exact sh_sums (by omega)) (by decide) (by decide) ?_
        refine wp_istore_n (pc := 9) dX5_put_9 (by decide) ?_
        refine wp_aload_n (pc := 10) dX5_put_10 (by first | rfl | assumption | (repeat first | assumption | rfl | refine aG_n ?_ rfl rfl)) ?_
        refine wp_getR (pc := 11) dX5_put_11 fl_5_9 (by first | rfl | assumption | exact sh_house (by omega) | exact sh_wish (by omega) | exact sh_wor (by omega) | exact sh_bar (by omega) | exact sh_term (by omega) | exact sh_sheet (by omega) | exact sh_items (by omega) | exact sh_sums (by omega)) rfl ?_
        refine wp_bipush (pc := 14) (v := 8) dX5_put_14 (by decide) ?_
        refine wp_iload_n (pc := 16) dX5_put_16 (by first | rfl | assumption | (repeat first | assumption | rfl | refine aG_n ?_ rfl rfl)) ?_
        refine wp_iadd (pc := 17) dX5_put_17 ?_
        refine wp_iload_n (pc := 18) dX5_put_18 (by first | rfl | assumption | (repeat first | assumption | rfl | refine aG_n ?_ rfl rfl)) ?_
        refine wp_iastC (pc := 19) (j := 13) dX5_put_19 (by first | rfl | assumption | exact sh_house (by omega) | exact sh_wish (by omega) | exact sh_wor (by omega) | exact sh_bar (by omega) | exact sh_term (by omega) | exact sh_sheet (by omega) | exact sh_items (by omega) | exact sh_sums (by omega)) (by decide) (by decide) ?_
        refine wp_bipush (pc := 20) (v := 8) dX5_put_20 (by decide) ?_
        refine wp_iload_n (pc := 22) dX5_put_22 (by first | rfl | assumption | (repeat first | assumption | rfl | refine aG_n ?_ rfl rfl)) ?_
        refine wp_iadd (pc := 23) dX5_put_23 ?_
        refine wp_iconst (pc := 24) (v := 2) dX5_put_24 (by decide) ?_
        refine wp_idiv (pc := 25) dX5_put_25 (by decide) ?_
        refine wp_istore (pc := 26) dX5_put_26 (by decide) ?_
        refine wp_iload (pc := 28) dX5_put_28 (by first | rfl | assumption | (repeat first | assumption | rfl | refine aG_n ?_ rfl rfl)) ?_
        refine wp_if_le (pc := 30) (tgt := 72) dX5_put_30 rfl (fun q => absurd q (by decide)) (fun _ => ?_)
        refine wp_aload_n (pc := 33) dX5_put_33 (by first | rfl | assumption | (repeat first | assumption | rfl | refine aG_n ?_ rfl rfl)) ?_
        refine wp_getR (pc := 34) dX5_put_34 fl_5_9 (by first | rfl | assumption | exact sh_house (by omega) | exact sh_wish (by omega) | exact sh_wor (by omega) | exact sh_bar (by omega) | exact sh_term (by omega) | exact sh_sheet (by omega) | exact sh_items (by omega) | exact sh_sums (by omega)) rfl ?_
        refine wp_iload (pc := 37) dX5_put_37 (by first | rfl | assumption | (repeat first | assumption | rfl | refine aG_n ?_ rfl rfl)) ?_
        refine wp_aload_n (pc := 39) dX5_put_39 (by first | rfl | assumption | (repeat first | assumption | rfl | refine aG_n ?_ rfl rfl)) ?_
        refine wp_getR (pc := 40) dX5_put_40 fl_5_9 (by first | rfl | assumption | exact sh_house (by omega) | exact sh_wish (by omega) | exact sh_wor (by omega) | exact sh_bar (by omega) | exact sh_term (by omega) | exact sh_sheet (by omega) | exact sh_items (by omega) | exact sh_sums (by omega)) rfl ?_
        refine wp_iconst (pc := 43) (v := 2) dX5_put_43 (by decide) ?_
        refine wp_iload (pc := 44) dX5_put_44 (by first | rfl | assumption | (repeat first | assumption | rfl | refine aG_n ?_ rfl rfl)) ?_
        refine wp_imul (pc := 46) dX5_put_46 ?_
        refine wp_ialdC (pc := 47) (j := 12) dX5_put_47 (by first | rfl | assumption | exact sh_house (by omega) | exact sh_wish (by omega) | exact sh_wor (by omega) | exact sh_bar (by omega) | exact sh_term (by omega) | exact sh_sheet (by omega) | exact sh_items (by omega) | exact sh_sums (by omega)) (by decide) (by decide) ?_
        refine wp_aload_n (pc := 48) dX5_put_48 (by first | rfl | assumption | (repeat first | assumption | rfl | refine aG_n ?_ rfl rfl)) ?_
        refine wp_getR (pc := 49) dX5_put_49 fl_5_9 (by first | rfl | assumption | exact sh_house (by omega) | exact sh_wish (by omega) | exact sh_wor (by omega) | exact sh_bar (by omega) | exact sh_term (by omega) | exact sh_sheet (by omega) | exact sh_items (by omega) | exact sh_sums (by omega)) rfl ?_
        refine wp_iconst (pc := 52) (v := 2) dX5_put_52 (by decide) ?_
        refine wp_iload (pc := 53) dX5_put_53 (by first | rfl | assumption | (repeat first | assumption | rfl | refine aG_n ?_ rfl rfl)) ?_
        refine wp_imul (pc := 55) dX5_put_55 ?_
        refine wp_iconst (pc := 56) (v := 1) dX5_put_56 (by decide) ?_
        refine wp_iadd (pc := 57) dX5_put_57 ?_
        refine wp_ialdC (pc := 58) (j := 13) dX5_put_58 (by first | rfl | assumption | exact sh_house (by omega) | exact sh_wish (by omega) | exact sh_wor (by omega) | exact sh_bar (by omega) | exact sh_term (by omega) | exact sh_sheet (by omega) | exact sh_items (by omega) | exact sh_sums (by omega)) (by decide) (by decide) ?_
        refine wp_cS (pc := 59) dX5_put_59 lk_5_13 rfl rfl rfl (c_X5_sum (aK_i ?_))
        refine wp_iastC (pc := 62) (j := 6) dX5_put_62 (by first | rfl | assumption | exact sh_house (by omega) | exact sh_wish (by omega) | exact sh_wor (by omega) | exact sh_bar (by omega) | exact sh_term (by omega) | exact sh_sheet (by omega) | exact sh_items (by omega) | exact sh_sums (by omega)) (by decide) (by decide) ?_
        refine wp_iload (pc := 63) dX5_put_63 (by first | rfl | assumption | (repeat first | assumption | rfl | refine aG_n ?_ rfl rfl)) ?_
        refine wp_iconst (pc := 65) (v := 2) dX5_put_65 (by decide) ?_
        refine wp_idiv (pc := 66) dX5_put_66 (by decide) ?_
        refine wp_istore (pc := 67) dX5_put_67 (by decide) ?_
        refine wp_goto (pc := 69) (tgt := 28) dX5_put_69 rfl ?_
        refine wp_iload (pc := 28) dX5_put_28 (by first | rfl | assumption | (repeat first | assumption | rfl | refine aG_n ?_ rfl rfl)) ?_
        refine wp_if_le (pc := 30) (tgt := 72) dX5_put_30 rfl (fun q => absurd q (by decide)) (fun _ => ?_)
        refine wp_aload_n (pc := 33) dX5_put_33 (by first | rfl | assumption | (repeat first | assumption | rfl | refine aG_n ?_ rfl rfl)) ?_
        refine wp_getR (pc := 34) dX5_put_34 fl_5_9 (by first | rfl | assumption | exact sh_house (by omega) | exact sh_wish (by omega) | exact sh_wor (by omega) | exact sh_bar (by omega) | exact sh_term (by omega) | exact sh_sheet (by omega) | exact sh_items (by omega) | exact sh_sums (by omega)) rfl ?_
        refine wp_iload (pc := 37) dX5_put_37 (by first | rfl | assumption | (repeat first | assumption | rfl | refine aG_n ?_ rfl rfl)) ?_
        refine wp_aload_n (pc := 39) dX5_put_39 (by first | rfl | assumption | (repeat first | assumption | rfl | refine aG_n ?_ rfl rfl)) ?_
        refine wp_getR (pc := 40) dX5_put_40 fl_5_9 (by first | rfl | assumption | exact sh_house (by omega) | exact sh_wish (by omega) | exact sh_wor (by omega) | exact sh_bar (by omega) | exact sh_term (by omega) | exact sh_sheet (by omega) | exact sh_items (by omega) | exact sh_sums (by omega)) rfl ?_
        refine wp_iconst (pc := 43) (v := 2) dX5_put_43 (by decide) ?_
        refine wp_iload (pc := 44) dX5_put_44 (by first | rfl | assumption | (repeat first | assumption | rfl | refine aG_n ?_ rfl rfl)) ?_
        refine wp_imul (pc := 46) dX5_put_46 ?_
        refine wp_ialdC (pc := 47) (j := 6) dX5_put_47 (by first | rfl | assumption | exact sh_house (by omega) | exact sh_wish (by omega) | exact sh_wor (by omega) | exact sh_bar (by omega) | exact sh_term (by omega) | exact sh_sheet (by omega) | exact sh_items (by omega) | exact sh_sums (by omega)) (by decide) (by decide) ?_
        refine wp_aload_n (pc := 48) dX5_put_48 (by first | rfl | assumption | (repeat first | assumption | rfl | refine aG_n ?_ rfl rfl)) ?_
        refine wp_getR (pc := 49) dX5_put_49 fl_5_9 (by first | rfl | assumption | exact sh_house (by omega) | exact sh_wish (by omega) | exact sh_wor (by omega) | exact sh_bar (by omega) | exact sh_term (by omega) | exact sh_sheet (by omega) | exact sh_items (by omega) | exact sh_sums (by omega)) rfl ?_
        refine wp_iconst (pc := 52) (v := 2) dX5_put_52 (by decide) ?_
        refine wp_iload (pc := 53) dX5_put_53 (by first | rfl | assumption | (repeat first | assumption | rfl | refine aG_n ?_ rfl rfl)) ?_
        refine wp_imul (pc := 55) dX5_put_55 ?_
        refine wp_iconst (pc := 56) (v := 1) dX5_put_56 (by decide) ?_
        refine wp_iadd (pc := 57) dX5_put_57 ?_
        refine wp_ialdC (pc := 58) (j := 7) dX5_put_58 (by first | rfl | assumption | exact sh_house (by omega) | exact sh_wish (by omega) | exact sh_wor (by omega) | exact sh_bar (by omega) | exact sh_term (by omega) | exact sh_sheet (by omega) | exact sh_items (by omega) | exact sh_sums (by omega)) (by decide) (by decide) ?_
        refine wp_cS (pc := 59) dX5_put_59 lk_5_13 rfl rfl rfl (c_X5_sum (aK_i ?_))
        refine wp_iastC (pc := 62) (j := 3) dX5_put_62 (by first | rfl | assumption | exact sh_house (by omega) | exact sh_wish (by omega) | exact sh_wor (by omega) | exact sh_bar (by omega) | exact sh_term (by omega) | exact sh_sheet (by omega) | exact sh_items (by omega) | exact sh_sums (by omega)) (by decide) (by decide) ?_
        refine wp_iload (pc := 63) dX5_put_63 (by first | rfl | assumption | (repeat first | assumption | rfl | refine aG_n ?_ rfl rfl)) ?_
        refine wp_iconst (pc := 65) (v := 2) dX5_put_65 (by decide) ?_
        refine wp_idiv (pc := 66) dX5_put_66 (by decide) ?_
        refine wp_istore (pc := 67) dX5_put_67 (by decide) ?_
        refine wp_goto (pc := 69) (tgt := 28) dX5_put_69 rfl ?_
        refine wp_iload (pc := 28) dX5_put_28 (by first | rfl | assumption | (repeat first | assumption | rfl | refine aG_n ?_ rfl rfl)) ?_
        refine wp_if_le (pc := 30) (tgt := 72) dX5_put_30 rfl (fun q => absurd q (by decide)) (fun _ => ?_)
        refine wp_aload_n (pc := 33) dX5_put_33 (by first | rfl | assumption | (repeat first | assumption | rfl | refine aG_n ?_ rfl rfl)) ?_
        refine wp_getR (pc := 34) dX5_put_34 fl_5_9 (by first | rfl | assumption | exact sh_house (by omega) | exact sh_wish (by omega) | exact sh_wor (by omega) | exact sh_bar (by omega) | exact sh_term (by omega) | exact sh_sheet (by omega) | exact sh_items (by omega) | exact sh_sums (by omega)) rfl ?_
        refine wp_iload (pc := 37) dX5_put_37 (by first | rfl | assumption | (repeat first | assumption | rfl | refine aG_n ?_ rfl rfl)) ?_
        refine wp_aload_n (pc := 39) dX5_put_39 (by first | rfl | assumption | (repeat first | assumption | rfl | refine aG_n ?_ rfl rfl)) ?_
        refine wp_getR (pc := 40) dX5_put_40 fl_5_9 (by first | rfl | assumption | exact sh_house (by omega) | exact sh_wish (by omega) | exact sh_wor (by omega) | exact sh_bar (by omega) | exact sh_term (by omega) | exact sh_sheet (by omega) | exact sh_items (by omega) | exact sh_sums (by omega)) rfl ?_
        refine wp_iconst (pc := 43) (v := 2) dX5_put_43 (by decide) ?_
        refine wp_iload (pc := 44) dX5_put_44 (by first | rfl | assumption | (repeat first | assumption | rfl | refine aG_n ?_ rfl rfl)) ?_
        refine wp_imul (pc := 46) dX5_put_46 ?_
        refine wp_ialdC (pc := 47) (j := 2) dX5_put_47 (by first | rfl | assumption | exact sh_house (by omega) | exact sh_wish (by omega) | exact sh_wor (by omega) | exact sh_bar (by omega) | exact sh_term (by omega) | exact sh_sheet (by omega) | exact sh_items (by omega) | exact sh_sums (by omega)) (by decide) (by decide) ?_
        refine wp_aload_n (pc := 48) dX5_put_48 (by first | rfl | assumption | (repeat first | assumption | rfl | refine aG_n ?_ rfl rfl)) ?_
        refine wp_getR (pc := 49) dX5_put_49 fl_5_9 (by first | rfl | assumption | exact sh_house (by omega) | exact sh_wish (by omega) | exact sh_wor (by omega) | exact sh_bar (by omega) | exact sh_term (by omega) | exact sh_sheet (by omega) | exact sh_items (by omega) | exact sh_sums (by omega)) rfl ?_
        refine wp_iconst (pc := 52) (v := 2) dX5_put_52 (by decide) ?_
        refine wp_iload (pc := 53) dX5_put_53 (by first | rfl | assumption | (repeat first | assumption | rfl | refine aG_n ?_ rfl rfl)) ?_
        refine wp_imul (pc := 55) dX5_put_55 ?_
        refine wp_iconst (pc := 56) (v := 1) dX5_put_56 (by decide) ?_
        refine wp_iadd (pc := 57) dX5_put_57 ?_
        refine wp_ialdC (pc := 58) (j := 3) dX5_put_58 (by first | rfl | assumption | exact sh_house (by omega) | exact sh_wish (by omega) | exact sh_wor (by omega) | exact sh_bar (by omega) | exact sh_term (by omega) | exact sh_sheet (by omega) | exact sh_items (by omega) | exact sh_sums (by omega)) (by decide) (by decide) ?_
        refine wp_cS (pc := 59) dX5_put_59 lk_5_13 rfl rfl rfl (c_X5_sum (aK_i ?_))
        refine wp_iastC (pc := 62) (j := 1) dX5_put_62 (by first | rfl | assumption | exact sh_house (by omega) | exact sh_wish (by omega) | exact sh_wor (by omega) | exact sh_bar (by omega) | exact sh_term (by omega) | exact sh_sheet (by omega) | exact sh_items (by omega) | exact sh_sums (by omega)) (by decide) (by decide) ?_
        refine wp_iload (pc := 63) dX5_put_63 (by first | rfl | assumption | (repeat first | assumption | rfl | refine aG_n ?_ rfl rfl)) ?_
        refine wp_iconst (pc := 65) (v := 2) dX5_put_65 (by decide) ?_
        refine wp_idiv (pc := 66) dX5_put_66 (by decide) ?_
        refine wp_istore (pc := 67) dX5_put_67 (by decide) ?_
        refine wp_goto (pc := 69) (tgt := 28) dX5_put_69 rfl ?_
        refine wp_iload (pc := 28) dX5_put_28 (by first | rfl | assumption | (repeat first | assumption | rfl | refine aG_n ?_ rfl rfl)) ?_
        refine wp_if_le (pc := 30) (tgt := 72) dX5_put_30 rfl (fun _ => ?_) (fun q => absurd q (by decide))
        refine wp_iload_n (pc := 72) dX5_put_72 (by first | rfl | assumption | (repeat first | assumption | rfl | refine aG_n ?_ rfl rfl)) ?_
        refine wp_iretK (pc := 73) dX5_put_73 rfl (by first | rfl | decide | assumption) ?_
        refine wp_ireturn (pc := 32) dX11_row_32 rfl (by first | rfl | decide | assumption) ?_
        refine k _ _ (fun Q' k' => ?_)
        refine wp_iload_n (pc := 0) dX12_row_0 (by first | rfl | assumption | (repeat first | assumption | rfl | refine aG_n ?_ rfl rfl)) ?_
        refine wp_i2l (pc := 1) dX12_row_1 ?_
        refine wp_lconst (pc := 2) (v := 0) dX12_row_2 (by decide) ?_
        refine wp_ldc2 (pc := 3) dX12_row_3 cl_12_347 ?_
        refine wp_cS (pc := 6) dX12_row_6 lk_12_133 rfl rfl rfl (c_X12_in (fun _ => aK_i ?_) (fun q => absurd (by rw [w_int]; exact c1) q))
        refine wp_if_eq (pc := 9) (tgt := 24) dX12_row_9 rfl (fun q => absurd q (by decide)) (fun _ => ?_)
        refine wp_iload_n (pc := 12) dX12_row_12 (by first | rfl | assumption | (repeat first | assumption | rfl | refine aG_n ?_ rfl rfl)) ?_
        refine wp_i2l (pc := 13) dX12_row_13 ?_
        refine wp_lconst (pc := 14) (v := 0) dX12_row_14 (by decide) ?_
        refine wp_ldc2 (pc := 15) dX12_row_15 cl_12_216 ?_
        refine wp_cS (pc := 18) dX12_row_18 lk_12_133 rfl rfl rfl (c_X12_in (fun _ => aK_i ?_) (fun q => absurd (by rw [w_int]; exact c2) q))
        refine wp_if_ne (pc := 21) (tgt := 26) dX12_row_21 rfl (fun _ => ?_) (fun q => absurd q (by decide))
        refine wp_aload_n (pc := 26) dX12_row_26 (by first | rfl | assumption | (repeat first | assumption | rfl | refine aG_n ?_ rfl rfl)) ?_
        refine wp_getR (pc := 27) dX12_row_27 fl_12_119 (by first | rfl | assumption | exact sh_house (by omega) | exact sh_wish (by omega) | exact sh_wor (by omega) | exact sh_bar (by omega) | exact sh_term (by omega) | exact sh_sheet (by omega) | exact sh_items (by omega) | exact sh_sums (by omega)) rfl ?_
        refine wp_iload_n (pc := 30) dX12_row_30 (by first | rfl | assumption | (repeat first | assumption | rfl | refine aG_n ?_ rfl rfl)) ?_
        refine wp_ialdC (pc := 31) (j := 5) dX12_row_31 (by first | rfl | assumption | exact sh_house (by omega) | exact sh_wish (by omega) | exact sh_wor (by omega) | exact sh_bar (by omega) | exact sh_term (by omega) | exact sh_sheet (by omega) | exact sh_items (by omega) | exact sh_sums (by omega)) (by decide) (by decide) ?_
        refine wp_istore_n (pc := 32) dX12_row_32 (by decide) ?_
        refine wp_aload_n (pc := 33) dX12_row_33 (by first | rfl | assumption | (repeat first | assumption | rfl | refine aG_n ?_ rfl rfl)) ?_
        refine wp_getR (pc := 34) dX12_row_34 fl_12_119 (by first | rfl | assumption | exact sh_house (by omega) | exact sh_wish (by omega) | exact sh_wor (by omega) | exact sh_bar (by omega) | exact sh_term (by omega) | exact sh_sheet (by omega) | exact sh_items (by omega) | exact sh_sums (by omega)) rfl ?_
        refine wp_iload_n (pc := 37) dX12_row_37 (by first | rfl | assumption | (repeat first | assumption | rfl | refine aG_n ?_ rfl rfl)) ?_
        refine wp_iload_n (pc := 38) dX12_row_38 (by first | rfl | assumption | (repeat first | assumption | rfl | refine aG_n ?_ rfl rfl)) ?_
        refine wp_iastC (pc := 39) (j := 5) dX12_row_39 (by first | rfl | assumption | exact sh_house (by omega) | exact sh_wish (by omega) | exact sh_wor (by omega) | exact sh_bar (by omega) | exact sh_term (by omega) | exact sh_sheet (by omega) | exact sh_items (by omega) | exact sh_sums (by omega)) (by decide) (by decide) ?_
        refine wp_iload_n (pc := 40) dX12_row_40 (by first | rfl | assumption | (repeat first | assumption | rfl | refine aG_n ?_ rfl rfl)) ?_
        refine wp_ireturn (pc := 41) dX12_row_41 rfl (by first | rfl | decide | assumption) ?_
        refine qEq ?_ (k' _ ?_)
        · simp (disch := omega) only [up2_ne]
          exact (hR.1 5 (by omega)).1.symm
        · refine ⟨own_c (by simp (disch := omega) only [up2_ne, fil_ne]) (fun i9 hi9 => (by simp (disch := omega) only [up2_ne, up2_p, fil_ne, fil_p])) (hI.1), coin_c (by simp (disch := omega) only [up2_ne, fil_ne]) (fun i9 hi9 => (by simp (disch := omega) only [up2_ne, up2_p, fil_ne, fil_p])) (hI.2.1), lev_c ⟨(by simp (disch := omega) only [up2_ne, fil_ne]), (by simp (disch := omega) only [up2_ne, fil_ne]), (by simp (disch := omega) only [up2_ne, fil_ne])⟩ (fun i9 hi9 => ⟨(by simp (disch := omega) only [up2_ne, up2_p, fil_ne, fil_p]), (by simp (disch := omega) only [up2_ne, up2_p, fil_ne, fil_p]), (by simp (disch := omega) only [up2_ne, up2_p, fil_ne, fil_p])⟩) (hI.2.2.1), wish_c ⟨(by simp (disch := omega) only [up2_ne, fil_ne]), (by simp (disch := omega) only [up2_ne, fil_ne]), (by simp (disch := omega) only [up2_ne, fil_ne]), (by simp (disch := omega) only [up2_ne, fil_ne])⟩ (fun i9 hi9 => ⟨(by simp (disch := omega) only [up2_ne, fil_ne]), (by simp (disch := omega) only [up2_ne, fil_ne]), (by simp (disch := omega) only [up2_ne, fil_ne])⟩) (hI.2.2.2.1), tape_c (by simp (disch := omega) only [up2_ne, up2_p, fil_ne, fil_p]) (by simp (disch := omega) only [up2_ne, up2_p, fil_ne, fil_p]) (by simp (disch := omega) only [up2_ne, fil_ne]) (by simp (disch := omega) only [up2_ne, fil_ne]) (hI.2.2.2.2.1), talk_c ⟨(by simp (disch := omega) only [up2_ne, fil_ne]), (by simp (disch := omega) only [up2_ne, fil_ne]), (by simp (disch := omega) only [up2_ne, fil_ne]), (by simp (disch := omega) only [up2_ne, fil_ne]), (by simp (disch := omega) only [up2_ne, fil_ne])⟩ ⟨(by simp (disch := omega) only [up2_ne, fil_ne]), (by simp (disch := omega) only [up2_ne, fil_ne]), (by simp (disch := omega) only [up2_ne, fil_ne])⟩ (fun j9 hj9 hk9 => (by simp (disch := omega) only [up2_ne, up2_p, fil_ne, fil_p])) (fun o9 => ⟨(by simp (disch := omega) only [up2_ne, fil_ne]), (by simp (disch := omega) only [up2_ne, fil_ne])⟩) rfl (hI.2.2.2.2.2.1), led_c (by simp (disch := omega) only [up2_ne, up2_p, fil_ne, fil_p]) (by simp (disch := omega) only [up2_ne, up2_p, fil_ne, fil_p]) (fun i9 hi9 => (by simp (disch := omega) only [up2_ne, fil_ne])) (fun c9 hc9 hd9 => (by simp (disch := omega) only [up2_ne, fil_ne])) ⟨(by simp (disch := omega) only [up2_ne, fil_ne]), (by simp (disch := omega) only [up2_ne, fil_ne])⟩ (hI.2.2.2.2.2.2.1), ?_, sheet_c ⟨(by simp (disch := omega) only [up2_ne, fil_ne]), (by simp (disch := omega) only [up2_ne, fil_ne]), (by simp (disch := omega) only [up2_ne, fil_ne])⟩ (fun s9 hs9 => ⟨(by simp (disch := omega) only [up2_ne, fil_ne]), (by simp (disch := omega) only [up2_ne, fil_ne])⟩) (hI.2.2.2.2.2.2.2.2.1), grp_c (by simp (disch := omega) only [up2_ne, up2_p, fil_ne, fil_p]) (fun g9 hg9 => (by simp (disch := omega) only [up2_ne, fil_ne])) (fun i9 hi9 => ⟨(by simp (disch := omega) only [up2_ne, fil_ne]), (by simp (disch := omega) only [up2_ne, fil_ne])⟩) (hI.2.2.2.2.2.2.2.2.2)⟩
          refine ⟨fun q hq => ?_, fun n h1 h2 => ?_⟩
          · have hh := hR.1 q hq
            match q, hq with
            | 0, _ => simp (disch := omega) only [up2_ne, up2_p, up2_at]; exact hh
            | 1, _ => simp (disch := omega) only [up2_ne, up2_p, up2_at]; exact hh
            | 2, _ => simp (disch := omega) only [up2_ne, up2_p, up2_at]; exact hh
            | 3, _ => simp (disch := omega) only [up2_ne, up2_p, up2_at]; exact hh
            | 4, _ => simp (disch := omega) only [up2_ne, up2_p, up2_at]; exact hh
            | 5, _ => exact ⟨by simp (disch := omega) only [up2_ne, up2_p, up2_at], by simp (disch := omega) only [up2_ne, up2_p, up2_at]; exact c2⟩
            | 6, _ => simp (disch := omega) only [up2_ne, up2_p, up2_at]; exact hh
            | 7, _ => simp (disch := omega) only [up2_ne, up2_p, up2_at]; exact hh
            | _ + 8, hq => omega
          · have hh := hR.2 n h1 h2
            match n, h1, h2 with
            | 0, h1, _ => omega
            | 1, _, _ => simp (disch := omega) only [up2_ne, up2_p, up2_at, Nat.reduceMul, Nat.reduceAdd]
            | 2, _, _ => simp (disch := omega) only [up2_ne, up2_p, up2_at]; exact hh
            | 3, _, _ => simp (disch := omega) only [up2_ne, up2_p, up2_at, Nat.reduceMul, Nat.reduceAdd]
            | 4, _, _ => simp (disch := omega) only [up2_ne, up2_p, up2_at]; exact hh
            | 5, _, _ => simp (disch := omega) only [up2_ne, up2_p, up2_at]; exact hh
            | 6, _, _ => simp (disch := omega) only [up2_ne, up2_p, up2_at, Nat.reduceMul, Nat.reduceAdd]
            | 7, _, _ => simp (disch := omega) only [up2_ne, up2_p, up2_at]; exact hh
            | _ + 8, _, h2 => omega
      | 6, _ =>
        refine wp_iload_n (pc := 0) dX11_row_0 (by first | rfl | assumption | (repeat first | assumption | rfl | refine aG_n ?_ rfl rfl)) ?_
        refine wp_iconst (pc := 1) (v := 0) dX11_row_1 (by decide) ?_
        refine wp_bipush (pc := 2) (v := 7) dX11_row_2 (by decide) ?_
        refine wp_cS (pc := 4) dX11_row_4 lk_11_112 rfl rfl rfl (c_X11_isWithin (fun _ => aK_i ?_) (fun q => absurd c1 q))
        refine wp_if_eq (pc := 7) (tgt := 21) dX11_row_7 rfl (fun q => absurd q (by decide)) (fun _ => ?_)
        refine wp_iload_n (pc := 10) dX11_row_10 (by first | rfl | assumption | (repeat first | assumption | rfl | refine aG_n ?_ rfl rfl)) ?_
        refine wp_iconst (pc := 11) (v := 0) dX11_row_11 (by decide) ?_
        refine wp_sipush (pc := 12) (v := 999) dX11_row_12 (by decide) ?_
        refine wp_cS (pc := 15) dX11_row_15 lk_11_112 rfl rfl rfl (c_X11_isWithin (fun _ => aK_i ?_) (fun q => absurd c2 q))
        refine wp_if_ne (pc := 18) (tgt := 23) dX11_row_18 rfl (fun _ => ?_) (fun q => absurd q (by decide))
        refine wp_aload_n (pc := 23) dX11_row_23 (by first | rfl | assumption | (repeat first | assumption | rfl | refine aG_n ?_ rfl rfl)) ?_
        refine wp_getR (pc := 24) dX11_row_24 fl_11_60 (by first | rfl | assumption | exact sh_house (by omega) | exact sh_wish (by omega) | exact sh_wor (by omega) | exact sh_bar (by omega) | exact sh_term (by omega) | exact sh_sheet (by omega) | exact sh_items (by omega) | exact sh_sums (by omega)) rfl ?_
        refine wp_iload_n (pc := 27) dX11_row_27 (by first | rfl | assumption | (repeat first | assumption | rfl | refine aG_n ?_ rfl rfl)) ?_
        refine wp_iload_n (pc := 28) dX11_row_28 (by first | rfl | assumption | (repeat first | assumption | rfl | refine aG_n ?_ rfl rfl)) ?_
        refine wp_cV (pc := 29) dX11_row_29 lk_11_346 rfl (by decide) rfl (by first | rfl | assumption | exact sh_house (by omega) | exact sh_wish (by omega) | exact sh_wor (by omega) | exact sh_bar (by omega) | exact sh_term (by omega) | exact sh_sheet (by omega) | exact sh_items (by omega) | exact sh_sums (by omega)) rfl rfl ?_
        refine wp_aload_n (pc := 0) dX5_put_0 (by first | rfl | assumption | (repeat first | assumption | rfl | refine aG_n ?_ rfl rfl)) ?_
        refine wp_getR (pc := 1) dX5_put_1 fl_5_9 (by first | rfl | assumption | exact sh_house (by omega) | exact sh_wish (by omega) | exact sh_wor (by omega) | exact sh_bar (by omega) | exact sh_term (by omega) | exact sh_sheet (by omega) | exact sh_items (by omega) | exact sh_sums (by omega)) rfl ?_
        refine wp_bipush (pc := 4) (v := 8) dX5_put_4 (by decide) ?_
        refine wp_iload_n (pc := 6) dX5_put_6 (by first | rfl | assumption | (repeat first | assumption | rfl | refine aG_n ?_ rfl rfl)) ?_
        refine wp_iadd (pc := 7) dX5_put_7 ?_
        refine wp_ialdC (pc := 8) (j := 14) dX5_put_8 (by first | rfl | assumption | exact sh_house (by omega) | exact sh_wish (by omega) | exact sh_wor (by omega) | exact sh_bar (by omega) | exact sh_term (by omega) | exact sh_sheet (by omega) | exact sh_items (by omega) | exact sh_sums (by omega)) (by decide) (by decide) ?_
        refine wp_istore_n (pc := 9) dX5_put_9 (by decide) ?_
        refine wp_aload_n (pc := 10) dX5_put_10 (by first | rfl | assumption | (repeat first | assumption | rfl | refine aG_n ?_ rfl rfl)) ?_
        refine wp_getR (pc := 11) dX5_put_11 fl_5_9 (by first | rfl | assumption | exact sh_house (by omega) | exact sh_wish (by omega) | exact sh_wor (by omega) | exact sh_bar (by omega) | exact sh_term (by omega) | exact sh_sheet (by omega) | exact sh_items (by omega) | exact sh_sums (by omega)) rfl ?_
        refine wp_bipush (pc := 14) (v := 8) dX5_put_14 (by decide) ?_
        refine wp_iload_n (pc := 16) dX5_put_16 (by first | rfl | assumption | (repeat first | assumption | rfl | refine aG_n ?_ rfl rfl)) ?_
        refine wp_iadd (pc := 17) dX5_put_17 ?_
        refine wp_iload_n (pc := 18) dX5_put_18 (by first | rfl | assumption | (repeat first | assumption | rfl | refine aG_n ?_ rfl rfl)) ?_
        refine wp_iastC (pc := 19) (j := 14) dX5_put_19 (by first | rfl | assumption | exact sh_house (by omega) | exact sh_wish (by omega) | exact sh_wor (by omega) | exact sh_bar (by omega) | exact sh_term (by omega) | exact sh_sheet (by omega) | exact sh_items (by omega) | exact sh_sums (by omega)) (by decide) (by decide) ?_
        refine wp_bipush (pc := 20) (v := 8) dX5_put_20 (by decide) ?_
        refine wp_iload_n (pc := 22) dX5_put_22 (by first | rfl | assumption | (repeat first | assumption | rfl | refine aG_n ?_ rfl rfl)) ?_
        refine wp_iadd (pc := 23) dX5_put_23 ?_
        refine wp_iconst (pc := 24) (v := 2) dX5_put_24 (by decide) ?_
        refine wp_idiv (pc := 25) dX5_put_25 (by decide) ?_
        refine wp_istore (pc := 26) dX5_put_26 (by decide) ?_
        refine wp_iload (pc := 28) dX5_put_28 (by first | rfl | assumption | (repeat first | assumption | rfl | refine aG_n ?_ rfl rfl)) ?_
        refine wp_if_le (pc := 30) (tgt := 72) dX5_put_30 rfl (fun q => absurd q (by decide)) (fun _ => ?_)
        refine wp_aload_n (pc := 33) dX5_put_33 (by first | rfl | assumption | (repeat first | assumption | rfl | refine aG_n ?_ rfl rfl)) ?_
        refine wp_getR (pc := 34) dX5_put_34 fl_5_9 (by first | rfl | assumption | exact sh_house (by omega) | exact sh_wish (by omega) | exact sh_wor (by omega) | exact sh_bar (by omega) | exact sh_term (by omega) | exact sh_sheet (by omega) | exact sh_items (by omega) | exact sh_sums (by omega)) rfl ?_
        refine wp_iload (pc := 37) dX5_put_37 (by first | rfl | assumption | (repeat first | assumption | rfl | refine aG_n ?_ rfl rfl)) ?_
        refine wp_aload_n (pc := 39) dX5_put_39 (by first | rfl | assumption | (repeat first | assumption | rfl | refine aG_n ?_ rfl rfl)) ?_
        refine wp_getR (pc := 40) dX5_put_40 fl_5_9 (by first | rfl | assumption | exact sh_house (by omega) | exact sh_wish (by omega) | exact sh_wor (by omega) | exact sh_bar (by omega) | exact sh_term (by omega) | exact sh_sheet (by omega) | exact sh_items (by omega) | exact sh_sums (by omega)) rfl ?_
        refine wp_iconst (pc := 43) (v := 2) dX5_put_43 (by decide) ?_
        refine wp_iload (pc := 44) dX5_put_44 (by first | rfl | assumption | (repeat first | assumption | rfl | refine aG_n ?_ rfl rfl)) ?_
        refine wp_imul (pc := 46) dX5_put_46 ?_
        refine wp_ialdC (pc := 47) (j := 14) dX5_put_47 (by first | rfl | assumption | exact sh_house (by omega) | exact sh_wish (by omega) | exact sh_wor (by omega) | exact sh_bar (by omega) | exact sh_term (by omega) | exact sh_sheet (by omega) | exact sh_items (by omega) | exact sh_sums (by omega)) (by decide) (by decide) ?_
        refine wp_aload_n (pc := 48) dX5_put_48 (by first | rfl | assumption | (repeat first | assumption | rfl | refine aG_n ?_ rfl rfl)) ?_
        refine wp_getR (pc := 49) dX5_put_49 fl_5_9 (by first | rfl | assumption | exact sh_house (by omega) | exact sh_wish (by omega) | exact sh_wor (by omega) | exact sh_bar (by omega) | exact sh_term (by omega) | exact sh_sheet (by omega) | exact sh_items (by omega) | exact sh_sums (by omega)) rfl ?_
        refine wp_iconst (pc := 52) (v := 2) dX5_put_52 (by decide) ?_
        refine wp_iload (pc := 53) dX5_put_53 (by first | rfl | assumption | (repeat first | assumption | rfl | refine aG_n ?_ rfl rfl)) ?_
        refine wp_imul (pc := 55) dX5_put_55 ?_
        refine wp_iconst (pc := 56) (v := 1) dX5_put_56 (by decide) ?_
        refine wp_iadd (pc := 57) dX5_put_57 ?_
        refine wp_ialdC (pc := 58) (j := 15) dX5_put_58 (by first | rfl | assumption | exact sh_house (by omega) | exact sh_wish (by omega) | exact sh_wor (by omega) | exact sh_bar (by omega) | exact sh_term (by omega) | exact sh_sheet (by omega) | exact sh_items (by omega) | exact sh_sums (by omega)) (by decide) (by decide) ?_
        refine wp_cS (pc := 59) dX5_put_59 lk_5_13 rfl rfl rfl (c_X5_sum (aK_i ?_))
        refine wp_iastC (pc := 62) (j := 7) dX5_put_62 (by first | rfl | assumption | exact sh_house (by omega) | exact sh_wish (by omega) | exact sh_wor (by omega) | exact sh_bar (by omega) | exact sh_term (by omega) | exact sh_sheet (by omega) | exact sh_items (by omega) | exact sh_sums (by omega)) (by decide) (by decide) ?_
        refine wp_iload (pc := 63) dX5_put_63 (by first | rfl | assumption | (repeat first | assumption | rfl | refine aG_n ?_ rfl rfl)) ?_
        refine wp_iconst (pc := 65) (v := 2) dX5_put_65 (by decide) ?_
        refine wp_idiv (pc := 66) dX5_put_66 (by decide) ?_
        refine wp_istore (pc := 67) dX5_put_67 (by decide) ?_
        refine wp_goto (pc := 69) (tgt := 28) dX5_put_69 rfl ?_
        refine wp_iload (pc := 28) dX5_put_28 (by first | rfl | assumption | (repeat first | assumption | rfl | refine aG_n ?_ rfl rfl)) ?_
        refine wp_if_le (pc := 30) (tgt := 72) dX5_put_30 rfl (fun q => absurd q (by decide)) (fun _ => ?_)
        refine wp_aload_n (pc := 33) dX5_put_33 (by first | rfl | assumption | (repeat first | assumption | rfl | refine aG_n ?_ rfl rfl)) ?_
        refine wp_getR (pc := 34) dX5_put_34 fl_5_9 (by first | rfl | assumption | exact sh_house (by omega) | exact sh_wish (by omega) | exact sh_wor (by omega) | exact sh_bar (by omega) | exact sh_term (by omega) | exact sh_sheet (by omega) | exact sh_items (by omega) | exact sh_sums (by omega)) rfl ?_
        refine wp_iload (pc := 37) dX5_put_37 (by first | rfl | assumption | (repeat first | assumption | rfl | refine aG_n ?_ rfl rfl)) ?_
        refine wp_aload_n (pc := 39) dX5_put_39 (by first | rfl | assumption | (repeat first | assumption | rfl | refine aG_n ?_ rfl rfl)) ?_
        refine wp_getR (pc := 40) dX5_put_40 fl_5_9 (by first | rfl | assumption | exact sh_house (by omega) | exact sh_wish (by omega) | exact sh_wor (by omega) | exact sh_bar (by omega) | exact sh_term (by omega) | exact sh_sheet (by omega) | exact sh_items (by omega) | exact sh_sums (by omega)) rfl ?_
        refine wp_iconst (pc := 43) (v := 2) dX5_put_43 (by decide) ?_
        refine wp_iload (pc := 44) dX5_put_44 (by first | rfl | assumption | (repeat first | assumption | rfl | refine aG_n ?_ rfl rfl)) ?_
        refine wp_imul (pc := 46) dX5_put_46 ?_
        refine wp_ialdC (pc := 47) (j := 6) dX5_put_47 (by first | rfl | assumption | exact sh_house (by omega) | exact sh_wish (by omega) | exact sh_wor (by omega) | exact sh_bar (by omega) | exact sh_term (by omega) | exact sh_sheet (by omega) | exact sh_items (by omega) | exact sh_sums (by omega)) (by decide) (by decide) ?_
        refine wp_aload_n (pc := 48) dX5_put_48 (by first | rfl | assumption | (repeat first | assumption | rfl | refine aG_n ?_ rfl rfl)) ?_
        refine wp_getR (pc := 49) dX5_put_49 fl_5_9 (by first | rfl | assumption | exact sh_house (by omega) | exact sh_wish (by omega) | exact sh_wor (by omega) | exact sh_bar (by omega) | exact sh_term (by omega) | exact sh_sheet (by omega) | exact sh_items (by omega) | exact sh_sums (by omega)) rfl ?_
        refine wp_iconst (pc := 52) (v := 2) dX5_put_52 (by decide) ?_
        refine wp_iload (pc := 53) dX5_put_53 (by first | rfl | assumption | (repeat first | assumption | rfl | refine aG_n ?_ rfl rfl)) ?_
        refine wp_imul (pc := 55) dX5_put_55 ?_
        refine wp_iconst (pc := 56) (v := 1) dX5_put_56 (by decide) ?_
        refine wp_iadd (pc := 57) dX5_put_57 ?_
        refine wp_ialdC (pc := 58) (j := 7) dX5_put_58 (by first | rfl | assumption | exact sh_house (by omega) | exact sh_wish (by omega) | exact sh_wor (by omega) | exact sh_bar (by omega) | exact sh_term (by omega) | exact sh_sheet (by omega) | exact sh_items (by omega) | exact sh_sums (by omega)) (by decide) (by decide) ?_
        refine wp_cS (pc := 59) dX5_put_59 lk_5_13 rfl rfl rfl (c_X5_sum (aK_i ?_))
        refine wp_iastC (pc := 62) (j := 3) dX5_put_62 (by first | rfl | assumption | exact sh_house (by omega) | exact sh_wish (by omega) | exact sh_wor (by omega) | exact sh_bar (by omega) | exact sh_term (by omega) | exact sh_sheet (by omega) | exact sh_items (by omega) | exact sh_sums (by omega)) (by decide) (by decide) ?_
        refine wp_iload (pc := 63) dX5_put_63 (by first | rfl | assumption | (repeat first | assumption | rfl | refine aG_n ?_ rfl rfl)) ?_
        refine wp_iconst (pc := 65) (v := 2) dX5_put_65 (by decide) ?_
        refine wp_idiv (pc := 66) dX5_put_66 (by decide) ?_
        refine wp_istore (pc := 67) dX5_put_67 (by decide) ?_
        refine wp_goto (pc := 69) (tgt := 28) dX5_put_69 rfl ?_
        refine wp_iload (pc := 28) dX5_put_28 (by first | rfl | assumption | (repeat first | assumption | rfl | refine aG_n ?_ rfl rfl)) ?_
        refine wp_if_le (pc := 30) (tgt := 72) dX5_put_30 rfl (fun q => absurd q (by decide)) (fun _ => ?_)
        refine wp_aload_n (pc := 33) dX5_put_33 (by first | rfl | assumption | (repeat first | assumption | rfl | refine aG_n ?_ rfl rfl)) ?_
        refine wp_getR (pc := 34) dX5_put_34 fl_5_9 (by first | rfl | assumption | exact sh_house (by omega) | exact sh_wish (by omega) | exact sh_wor (by omega) | exact sh_bar (by omega) | exact sh_term (by omega) | exact sh_sheet (by omega) | exact sh_items (by omega) | exact sh_sums (by omega)) rfl ?_
        refine wp_iload (pc := 37) dX5_put_37 (by first | rfl | assumption | (repeat first | assumption | rfl | refine aG_n ?_ rfl rfl)) ?_
        refine wp_aload_n (pc := 39) dX5_put_39 (by first | rfl | assumption | (repeat first | assumption | rfl | refine aG_n ?_ rfl rfl)) ?_
        refine wp_getR (pc := 40) dX5_put_40 fl_5_9 (by first | rfl | assumption | exact sh_house (by omega) | exact sh_wish (by omega) | exact sh_wor (by omega) | exact sh_bar (by omega) | exact sh_term (by omega) | exact sh_sheet (by omega) | exact sh_items (by omega) | exact sh_sums (by omega)) rfl ?_
        refine wp_iconst (pc := 43) (v := 2) dX5_put_43 (by decide) ?_
        refine wp_iload (pc := 44) dX5_put_44 (by first | rfl | assumption | (repeat first | assumption | rfl | refine aG_n ?_ rfl rfl)) ?_
        refine wp_imul (pc := 46) dX5_put_46 ?_
        refine wp_ialdC (pc := 47) (j := 2) dX5_put_47 (by first | rfl | assumption | exact sh_house (by omega) | exact sh_wish (by omega) | exact sh_wor (by omega) | exact sh_bar (by omega) | exact sh_term (by omega) | exact sh_sheet (by omega) | exact sh_items (by omega) | exact sh_sums (by omega)) (by decide) (by decide) ?_
        refine wp_aload_n (pc := 48) dX5_put_48 (by first | rfl | assumption | (repeat first | assumption | rfl | refine aG_n ?_ rfl rfl)) ?_
        refine wp_getR (pc := 49) dX5_put_49 fl_5_9 (by first | rfl | assumption | exact sh_house (by omega) | exact sh_wish (by omega) | exact sh_wor (by omega) | exact sh_bar (by omega) | exact sh_term (by omega) | exact sh_sheet (by omega) | exact sh_items (by omega) | exact sh_sums (by omega)) rfl ?_
        refine wp_iconst (pc := 52) (v := 2) dX5_put_52 (by decide) ?_
        refine wp_iload (pc := 53) dX5_put_53 (by first | rfl | assumption | (repeat first | assumption | rfl | refine aG_n ?_ rfl rfl)) ?_
        refine wp_imul (pc := 55) dX5_put_55 ?_
        refine wp_iconst (pc := 56) (v := 1) dX5_put_56 (by decide) ?_
        refine wp_iadd (pc := 57) dX5_put_57 ?_
        refine wp_ialdC (pc := 58) (j := 3) dX5_put_58 (by first | rfl | assumption | exact sh_house (by omega) | exact sh_wish (by omega) | exact sh_wor (by omega) | exact sh_bar (by omega) | exact sh_term (by omega) | exact sh_sheet (by omega) | exact sh_items (by omega) | exact sh_sums (by omega)) (by decide) (by decide) ?_
        refine wp_cS (pc := 59) dX5_put_59 lk_5_13 rfl rfl rfl (c_X5_sum (aK_i ?_))
        refine wp_iastC (pc := 62) (j := 1) dX5_put_62 (by first | rfl | assumption | exact sh_house (by omega) | exact sh_wish (by omega) | exact sh_wor (by omega) | exact sh_bar (by omega) | exact sh_term (by omega) | exact sh_sheet (by omega) | exact sh_items (by omega) | exact sh_sums (by omega)) (by decide) (by decide) ?_
        refine wp_iload (pc := 63) dX5_put_63 (by first | rfl | assumption | (repeat first | assumption | rfl | refine aG_n ?_ rfl rfl)) ?_
        refine wp_iconst (pc := 65) (v := 2) dX5_put_65 (by decide) ?_
        refine wp_idiv (pc := 66) dX5_put_66 (by decide) ?_
        refine wp_istore (pc := 67) dX5_put_67 (by decide) ?_
        refine wp_goto (pc := 69) (tgt := 28) dX5_put_69 rfl ?_
        refine wp_iload (pc := 28) dX5_put_28 (by first | rfl | assumption | (repeat first | assumption | rfl | refine aG_n ?_ rfl rfl)) ?_
        refine wp_if_le (pc := 30) (tgt := 72) dX5_put_30 rfl (fun _ => ?_) (fun q => absurd q (by decide))
        refine wp_iload_n (pc := 72) dX5_put_72 (by first | rfl | assumption | (repeat first | assumption | rfl | refine aG_n ?_ rfl rfl)) ?_
        refine wp_iretK (pc := 73) dX5_put_73 rfl (by first | rfl | decide | assumption) ?_
        refine wp_ireturn (pc := 32) dX11_row_32 rfl (by first | rfl | decide | assumption) ?_
        refine k _ _ (fun Q' k' => ?_)
        refine wp_iload_n (pc := 0) dX12_row_0 (by first | rfl | assumption | (repeat first | assumption | rfl | refine aG_n ?_ rfl rfl)) ?_
        refine wp_i2l (pc := 1) dX12_row_1 ?_
        refine wp_lconst (pc := 2) (v := 0) dX12_row_2 (by decide) ?_
        refine wp_ldc2 (pc := 3) dX12_row_3 cl_12_347 ?_
        refine wp_cS (pc := 6) dX12_row_6 lk_12_133 rfl rfl rfl (c_X12_in (fun _ => aK_i ?_) (fun q => absurd (by rw [w_int]; exact c1) q))
        refine wp_if_eq (pc := 9) (tgt := 24) dX12_row_9 rfl (fun q => absurd q (by decide)) (fun _ => ?_)
        refine wp_iload_n (pc := 12) dX12_row_12 (by first | rfl | assumption | (repeat first | assumption | rfl | refine aG_n ?_ rfl rfl)) ?_
        refine wp_i2l (pc := 13) dX12_row_13 ?_
        refine wp_lconst (pc := 14) (v := 0) dX12_row_14 (by decide) ?_
        refine wp_ldc2 (pc := 15) dX12_row_15 cl_12_216 ?_
        refine wp_cS (pc := 18) dX12_row_18 lk_12_133 rfl rfl rfl (c_X12_in (fun _ => aK_i ?_) (fun q => absurd (by rw [w_int]; exact c2) q))
        refine wp_if_ne (pc := 21) (tgt := 26) dX12_row_21 rfl (fun _ => ?_) (fun q => absurd q (by decide))
        refine wp_aload_n (pc := 26) dX12_row_26 (by first | rfl | assumption | (repeat first | assumption | rfl | refine aG_n ?_ rfl rfl)) ?_
        refine wp_getR (pc := 27) dX12_row_27 fl_12_119 (by first | rfl | assumption | exact sh_house (by omega) | exact sh_wish (by omega) | exact sh_wor (by omega) | exact sh_bar (by omega) | exact sh_term (by omega) | exact sh_sheet (by omega) | exact sh_items (by omega) | exact sh_sums (by omega)) rfl ?_
        refine wp_iload_n (pc := 30) dX12_row_30 (by first | rfl | assumption | (repeat first | assumption | rfl | refine aG_n ?_ rfl rfl)) ?_
        refine wp_ialdC (pc := 31) (j := 6) dX12_row_31 (by first | rfl | assumption | exact sh_house (by omega) | exact sh_wish (by omega) | exact sh_wor (by omega) | exact sh_bar (by omega) | exact sh_term (by omega) | exact sh_sheet (by omega) | exact sh_items (by omega) | exact sh_sums (by omega)) (by decide) (by decide) ?_
        refine wp_istore_n (pc := 32) dX12_row_32 (by decide) ?_
        refine wp_aload_n (pc := 33) dX12_row_33 (by first | rfl | assumption | (repeat first | assumption | rfl | refine aG_n ?_ rfl rfl)) ?_
        refine wp_getR (pc := 34) dX12_row_34 fl_12_119 (by first | rfl | assumption | exact sh_house (by omega) | exact sh_wish (by omega) | exact sh_wor (by omega) | exact sh_bar (by omega) | exact sh_term (by omega) | exact sh_sheet (by omega) | exact sh_items (by omega) | exact sh_sums (by omega)) rfl ?_
        refine wp_iload_n (pc := 37) dX12_row_37 (by first | rfl | assumption | (repeat first | assumption | rfl | refine aG_n ?_ rfl rfl)) ?_
        refine wp_iload_n (pc := 38) dX12_row_38 (by first | rfl | assumption | (repeat first | assumption | rfl | refine aG_n ?_ rfl rfl)) ?_
        refine wp_iastC (pc := 39) (j := 6) dX12_row_39 (by first | rfl | assumption | exact sh_house (by omega) | exact sh_wish (by omega) | exact sh_wor (by omega) | exact sh_bar (by omega) | exact sh_term (by omega) | exact sh_sheet (by omega) | exact sh_items (by omega) | exact sh_sums (by omega)) (by decide) (by decide) ?_
        refine wp_iload_n (pc := 40) dX12_row_40 (by first | rfl | assumption | (repeat first | assumption | rfl | refine aG_n ?_ rfl rfl)) ?_
        refine wp_ireturn (pc := 41) dX12_row_41 rfl (by first | rfl | decide | assumption) ?_
        refine qEq ?_ (k' _ ?_)
        · simp (disch := omega) only [up2_ne]
          exact (hR.1 6 (by omega)).1.symm
        · refine ⟨own_c (by simp (disch := omega) only [up2_ne, fil_ne]) (fun i9 hi9 => (by simp (disch := omega) only [up2_ne, up2_p, fil_ne, fil_p])) (hI.1), coin_c (by simp (disch := omega) only [up2_ne, fil_ne]) (fun i9 hi9 => (by simp (disch := omega) only [up2_ne, up2_p, fil_ne, fil_p])) (hI.2.1), lev_c ⟨(by simp (disch := omega) only [up2_ne, fil_ne]), (by simp (disch := omega) only [up2_ne, fil_ne]), (by simp (disch := omega) only [up2_ne, fil_ne])⟩ (fun i9 hi9 => ⟨(by simp (disch := omega) only [up2_ne, up2_p, fil_ne, fil_p]), (by simp (disch := omega) only [up2_ne, up2_p, fil_ne, fil_p]), (by simp (disch := omega) only [up2_ne, up2_p, fil_ne, fil_p])⟩) (hI.2.2.1), wish_c ⟨(by simp (disch := omega) only [up2_ne, fil_ne]), (by simp (disch := omega) only [up2_ne, fil_ne]), (by simp (disch := omega) only [up2_ne, fil_ne]), (by simp (disch := omega) only [up2_ne, fil_ne])⟩ (fun i9 hi9 => ⟨(by simp (disch := omega) only [up2_ne, fil_ne]), (by simp (disch := omega) only [up2_ne, fil_ne]), (by simp (disch := omega) only [up2_ne, fil_ne])⟩) (hI.2.2.2.1), tape_c (by simp (disch := omega) only [up2_ne, up2_p, fil_ne, fil_p]) (by simp (disch := omega) only [up2_ne, up2_p, fil_ne, fil_p]) (by simp (disch := omega) only [up2_ne, fil_ne]) (by simp (disch := omega) only [up2_ne, fil_ne]) (hI.2.2.2.2.1), talk_c ⟨(by simp (disch := omega) only [up2_ne, fil_ne]), (by simp (disch := omega) only [up2_ne, fil_ne]), (by simp (disch := omega) only [up2_ne, fil_ne]), (by simp (disch := omega) only [up2_ne, fil_ne]), (by simp (disch := omega) only [up2_ne, fil_ne])⟩ ⟨(by simp (disch := omega) only [up2_ne, fil_ne]), (by simp (disch := omega) only [up2_ne, fil_ne]), (by simp (disch := omega) only [up2_ne, fil_ne])⟩ (fun j9 hj9 hk9 => (by simp (disch := omega) only [up2_ne, up2_p, fil_ne, fil_p])) (fun o9 => ⟨(by simp (disch := omega) only [up2_ne, fil_ne]), (by simp (disch := omega) only [up2_ne, fil_ne])⟩) rfl (hI.2.2.2.2.2.1), led_c (by simp (disch := omega) only [up2_ne, up2_p, fil_ne, fil_p]) (by simp (disch := omega) only [up2_ne, up2_p, fil_ne, fil_p]) (fun i9 hi9 => (by simp (disch := omega) only [up2_ne, fil_ne])) (fun c9 hc9 hd9 => (by simp (disch := omega) only [up2_ne, fil_ne])) ⟨(by simp (disch := omega) only [up2_ne, fil_ne]), (by simp (disch := omega) only [up2_ne, fil_ne])⟩ (hI.2.2.2.2.2.2.1), ?_, sheet_c ⟨(by simp (disch := omega) only [up2_ne, fil_ne]), (by simp (disch := omega) only [up2_ne, fil_ne]), (by simp (disch := omega) only [up2_ne, fil_ne])⟩ (fun s9 hs9 => ⟨(by simp (disch := omega) only [up2_ne, fil_ne]), (by simp (disch := omega) only [up2_ne, fil_ne])⟩) (hI.2.2.2.2.2.2.2.2.1), grp_c (by simp (disch := omega) only [up2_ne, up2_p, fil_ne, fil_p]) (fun g9 hg9 => (by simp (disch := omega) only [up2_ne, fil_ne])) (fun i9 hi9 => ⟨(by simp (disch := omega) only [up2_ne, fil_ne]), (by simp (disch := omega) only [up2_ne, fil_ne])⟩) (hI.2.2.2.2.2.2.2.2.2)⟩
          refine ⟨fun q hq => ?_, fun n h1 h2 => ?_⟩
          · have hh := hR.1 q hq
            match q, hq with
            | 0, _ => simp (disch := omega) only [up2_ne, up2_p, up2_at]; exact hh
            | 1, _ => simp (disch := omega) only [up2_ne, up2_p, up2_at]; exact hh
            | 2, _ => simp (disch := omega) only [up2_ne, up2_p, up2_at]; exact hh
            | 3, _ => simp (disch := omega) only [up2_ne, up2_p, up2_at]; exact hh
            | 4, _ => simp (disch := omega) only [up2_ne, up2_p, up2_at]; exact hh
            | 5, _ => simp (disch := omega) only [up2_ne, up2_p, up2_at]; exact hh
            | 6, _ => exact ⟨by simp (disch := omega) only [up2_ne, up2_p, up2_at], by simp (disch := omega) only [up2_ne, up2_p, up2_at]; exact c2⟩
            | 7, _ => simp (disch := omega) only [up2_ne, up2_p, up2_at]; exact hh
            | _ + 8, hq => omega
          · have hh := hR.2 n h1 h2
            match n, h1, h2 with
            | 0, h1, _ => omega
            | 1, _, _ => simp (disch := omega) only [up2_ne, up2_p, up2_at, Nat.reduceMul, Nat.reduceAdd]
            | 2, _, _ => simp (disch := omega) only [up2_ne, up2_p, up2_at]; exact hh
            | 3, _, _ => simp (disch := omega) only [up2_ne, up2_p, up2_at, Nat.reduceMul, Nat.reduceAdd]
            | 4, _, _ => simp (disch := omega) only [up2_ne, up2_p, up2_at]; exact hh
            | 5, _, _ => simp (disch := omega) only [up2_ne, up2_p, up2_at]; exact hh
            | 6, _, _ => simp (disch := omega) only [up2_ne, up2_p, up2_at]; exact hh
            | 7, _, _ => simp (disch := omega) only [up2_ne, up2_p, up2_at, Nat.reduceMul, Nat.reduceAdd]
            | _ + 8, _, h2 => omega
      | 7, _ =>
        refine wp_iload_n (pc := 0) dX11_row_0 (by first | rfl | assumption | (repeat first | assumption | rfl | refine aG_n ?_ rfl rfl)) ?_
        refine wp_iconst (pc := 1) (v := 0) dX11_row_1 (by decide) ?_
        refine wp_bipush (pc := 2) (v := 7) dX11_row_2 (by decide) ?_
        refine wp_cS (pc := 4) dX11_row_4 lk_11_112 rfl rfl rfl (c_X11_isWithin (fun _ => aK_i ?_) (fun q => absurd c1 q))
        refine wp_if_eq (pc := 7) (tgt := 21) dX11_row_7 rfl (fun q => absurd q (by decide)) (fun _ => ?_)
        refine wp_iload_n (pc := 10) dX11_row_10 (by first | rfl | assumption | (repeat first | assumption | rfl | refine aG_n ?_ rfl rfl)) ?_
        refine wp_iconst (pc := 11) (v := 0) dX11_row_11 (by decide) ?_
        refine wp_sipush (pc := 12) (v := 999) dX11_row_12 (by decide) ?_
        refine wp_cS (pc := 15) dX11_row_15 lk_11_112 rfl rfl rfl (c_X11_isWithin (fun _ => aK_i ?_) (fun q => absurd c2 q))
        refine wp_if_ne (pc := 18) (tgt := 23) dX11_row_18 rfl (fun _ => ?_) (fun q => absurd q (by decide))
        refine wp_aload_n (pc := 23) dX11_row_23 (by first | rfl | assumption | (repeat first | assumption | rfl | refine aG_n ?_ rfl rfl)) ?_
        refine wp_getR (pc := 24) dX11_row_24 fl_11_60 (by first | rfl | assumption | exact sh_house (by omega) | exact sh_wish (by omega) | exact sh_wor (by omega) | exact sh_bar (by omega) | exact sh_term (by omega) | exact sh_sheet (by omega) | exact sh_items (by omega) | exact sh_sums (by omega)) rfl ?_
        refine wp_iload_n (pc := 27) dX11_row_27 (by first | rfl | assumption | (repeat first | assumption | rfl | refine aG_n ?_ rfl rfl)) ?_
        refine wp_iload_n (pc := 28) dX11_row_28 (by first | rfl | assumption | (repeat first | assumption | rfl | refine aG_n ?_ rfl rfl)) ?_
        refine wp_cV (pc := 29) dX11_row_29 lk_11_346 rfl (by decide) rfl (by first | rfl | assumption | exact sh_house (by omega) | exact sh_wish (by omega) | exact sh_wor (by omega) | exact sh_bar (by omega) | exact sh_term (by omega) | exact sh_sheet (by omega) | exact sh_items (by omega) | exact sh_sums (by omega)) rfl rfl ?_
        refine wp_aload_n (pc := 0) dX5_put_0 (by first | rfl | assumption | (repeat first | assumption | rfl | refine aG_n ?_ rfl rfl)) ?_
        refine wp_getR (pc := 1) dX5_put_1 fl_5_9 (by first | rfl | assumption | exact sh_house (by omega) | exact sh_wish (by omega) | exact sh_wor (by omega) | exact sh_bar (by omega) | exact sh_term (by omega) | exact sh_sheet (by omega) | exact sh_items (by omega) | exact sh_sums (by omega)) rfl ?_
        refine wp_bipush (pc := 4) (v := 8) dX5_put_4 (by decide) ?_
        refine wp_iload_n (pc := 6) dX5_put_6 (by first | rfl | assumption | (repeat first | assumption | rfl | refine aG_n ?_ rfl rfl)) ?_
        refine wp_iadd (pc := 7) dX5_put_7 ?_
        refine wp_ialdC (pc := 8) (j := 15) dX5_put_8 (by first | rfl | assumption | exact sh_house (by omega) | exact sh_wish (by omega) | exact sh_wor (by omega) | exact sh_bar (by omega) | exact sh_term (by omega) | exact sh_sheet (by omega) | exact sh_items (by omega) | exact sh_sums (by omega)) (by decide) (by decide) ?_
        refine wp_istore_n (pc := 9) dX5_put_9 (by decide) ?_
        refine wp_aload_n (pc := 10) dX5_put_10 (by first | rfl | assumption | (repeat first | assumption | rfl | refine aG_n ?_ rfl rfl)) ?_
        refine wp_getR (pc := 11) dX5_put_11 fl_5_9 (by first | rfl | assumption | exact sh_house (by omega) | exact sh_wish (by omega) | exact sh_wor (by omega) | exact sh_bar (by omega) | exact sh_term (by omega) | exact sh_sheet (by omega) | exact sh_items (by omega) | exact sh_sums (by omega)) rfl ?_
        refine wp_bipush (pc := 14) (v := 8) dX5_put_14 (by decide) ?_
        refine wp_iload_n (pc := 16) dX5_put_16 (by first | rfl | assumption | (repeat first | assumption | rfl | refine aG_n ?_ rfl rfl)) ?_
        refine wp_iadd (pc := 17) dX5_put_17 ?_
        refine wp_iload_n (pc := 18) dX5_put_18 (by first | rfl | assumption | (repeat first | assumption | rfl | refine aG_n ?_ rfl rfl)) ?_
        refine wp_iastC (pc := 19) (j := 15) dX5_put_19 (by first | rfl | assumption | exact sh_house (by omega) | exact sh_wish (by omega) | exact sh_wor (by omega) | exact sh_bar (by omega) | exact sh_term (by omega) | exact sh_sheet (by omega) | exact sh_items (by omega) | exact sh_sums (by omega)) (by decide) (by decide) ?_
        refine wp_bipush (pc := 20) (v := 8) dX5_put_20 (by decide) ?_
        refine wp_iload_n (pc := 22) dX5_put_22 (by first | rfl | assumption | (repeat first | assumption | rfl | refine aG_n ?_ rfl rfl)) ?_
        refine wp_iadd (pc := 23) dX5_put_23 ?_
        refine wp_iconst (pc := 24) (v := 2) dX5_put_24 (by decide) ?_
        refine wp_idiv (pc := 25) dX5_put_25 (by decide) ?_
        refine wp_istore (pc := 26) dX5_put_26 (by decide) ?_
        refine wp_iload (pc := 28) dX5_put_28 (by first | rfl | assumption | (repeat first | assumption | rfl | refine aG_n ?_ rfl rfl)) ?_
        refine wp_if_le (pc := 30) (tgt := 72) dX5_put_30 rfl (fun q => absurd q (by decide)) (fun _ => ?_)
        refine wp_aload_n (pc := 33) dX5_put_33 (by first | rfl | assumption | (repeat first | assumption | rfl | refine aG_n ?_ rfl rfl)) ?_
        refine wp_getR (pc := 34) dX5_put_34 fl_5_9 (by first | rfl | assumption | exact sh_house (by omega) | exact sh_wish (by omega) | exact sh_wor (by omega) | exact sh_bar (by omega) | exact sh_term (by omega) | exact sh_sheet (by omega) | exact sh_items (by omega) | exact sh_sums (by omega)) rfl ?_
        refine wp_iload (pc := 37) dX5_put_37 (by first | rfl | assumption | (repeat first | assumption | rfl | refine aG_n ?_ rfl rfl)) ?_
        refine wp_aload_n (pc := 39) dX5_put_39 (by first | rfl | assumption | (repeat first | assumption | rfl | refine aG_n ?_ rfl rfl)) ?_
        refine wp_getR (pc := 40) dX5_put_40 fl_5_9 (by first | rfl | assumption | exact sh_house (by omega) | exact sh_wish (by omega) | exact sh_wor (by omega) | exact sh_bar (by omega) | exact sh_term (by omega) | exact sh_sheet (by omega) | exact sh_items (by omega) | exact sh_sums (by omega)) rfl ?_
        refine wp_iconst (pc := 43) (v := 2) dX5_put_43 (by decide) ?_
        refine wp_iload (pc := 44) dX5_put_44 (by first | rfl | assumption | (repeat first | assumption | rfl | refine aG_n ?_ rfl rfl)) ?_
        refine wp_imul (pc := 46) dX5_put_46 ?_
        refine wp_ialdC (pc := 47) (j := 14) dX5_put_47 (by first | rfl | assumption | exact sh_house (by omega) | exact sh_wish (by omega) | exact sh_wor (by omega) | exact sh_bar (by omega) | exact sh_term (by omega) | exact sh_sheet (by omega) | exact sh_items (by omega) | exact sh_sums (by omega)) (by decide) (by decide) ?_
        refine wp_aload_n (pc := 48) dX5_put_48 (by first | rfl | assumption | (repeat first | assumption | rfl | refine aG_n ?_ rfl rfl)) ?_
        refine wp_getR (pc := 49) dX5_put_49 fl_5_9 (by first | rfl | assumption | exact sh_house (by omega) | exact sh_wish (by omega) | exact sh_wor (by omega) | exact sh_bar (by omega) | exact sh_term (by omega) | exact sh_sheet (by omega) | exact sh_items (by omega) | exact sh_sums (by omega)) rfl ?_
        refine wp_iconst (pc := 52) (v := 2) dX5_put_52 (by decide) ?_
        refine wp_iload (pc := 53) dX5_put_53 (by first | rfl | assumption | (repeat first | assumption | rfl | refine aG_n ?_ rfl rfl)) ?_
        refine wp_imul (pc := 55) dX5_put_55 ?_
        refine wp_iconst (pc := 56) (v := 1) dX5_put_56 (by decide) ?_
        refine wp_iadd (pc := 57) dX5_put_57 ?_
        refine wp_ialdC (pc := 58) (j := 15) dX5_put_58 (by first | rfl | assumption | exact sh_house (by omega) | exact sh_wish (by omega) | exact sh_wor (by omega) | exact sh_bar (by omega) | exact sh_term (by omega) | exact sh_sheet (by omega) | exact sh_items (by omega) | exact sh_sums (by omega)) (by decide) (by decide) ?_
        refine wp_cS (pc := 59) dX5_put_59 lk_5_13 rfl rfl rfl (c_X5_sum (aK_i ?_))
        refine wp_iastC (pc := 62) (j := 7) dX5_put_62 (by first | rfl | assumption | exact sh_house (by omega) | exact sh_wish (by omega) | exact sh_wor (by omega) | exact sh_bar (by omega) | exact sh_term (by omega) | exact sh_sheet (by omega) | exact sh_items (by omega) | exact sh_sums (by omega)) (by decide) (by decide) ?_
        refine wp_iload (pc := 63) dX5_put_63 (by first | rfl | assumption | (repeat first | assumption | rfl | refine aG_n ?_ rfl rfl)) ?_
        refine wp_iconst (pc := 65) (v := 2) dX5_put_65 (by decide) ?_
        refine wp_idiv (pc := 66) dX5_put_66 (by decide) ?_
        refine wp_istore (pc := 67) dX5_put_67 (by decide) ?_
        refine wp_goto (pc := 69) (tgt := 28) dX5_put_69 rfl ?_
        refine wp_iload (pc := 28) dX5_put_28 (by first | rfl | assumption | (repeat first | assumption | rfl | refine aG_n ?_ rfl rfl)) ?_
        refine wp_if_le (pc := 30) (tgt := 72) dX5_put_30 rfl (fun q => absurd q (by decide)) (fun _ => ?_)
        refine wp_aload_n (pc := 33) dX5_put_33 (by first | rfl | assumption | (repeat first | assumption | rfl | refine aG_n ?_ rfl rfl)) ?_
        refine wp_getR (pc := 34) dX5_put_34 fl_5_9 (by first | rfl | assumption | exact sh_house (by omega) | exact sh_wish (by omega) | exact sh_wor (by omega) | exact sh_bar (by omega) | exact sh_term (by omega) | exact sh_sheet (by omega) | exact sh_items (by omega) | exact sh_sums (by omega)) rfl ?_
        refine wp_iload (pc := 37) dX5_put_37 (by first | rfl | assumption | (repeat first | assumption | rfl | refine aG_n ?_ rfl rfl)) ?_
        refine wp_aload_n (pc := 39) dX5_put_39 (by first | rfl | assumption | (repeat first | assumption | rfl | refine aG_n ?_ rfl rfl)) ?_
        refine wp_getR (pc := 40) dX5_put_40 fl_5_9 (by first | rfl | assumption | exact sh_house (by omega) | exact sh_wish (by omega) | exact sh_wor (by omega) | exact sh_bar (by omega) | exact sh_term (by omega) | exact sh_sheet (by omega) | exact sh_items (by omega) | exact sh_sums (by omega)) rfl ?_
        refine wp_iconst (pc := 43) (v := 2) dX5_put_43 (by decide) ?_
        refine wp_iload (pc := 44) dX5_put_44 (by first | rfl | assumption | (repeat first | assumption | rfl | refine aG_n ?_ rfl rfl)) ?_
        refine wp_imul (pc := 46) dX5_put_46 ?_
        refine wp_ialdC (pc := 47) (j := 6) dX5_put_47 (by first | rfl | assumption | exact sh_house (by omega) | exact sh_wish (by omega) | exact sh_wor (by omega) | exact sh_bar (by omega) | exact sh_term (by omega) | exact sh_sheet (by omega) | exact sh_items (by omega) | exact sh_sums (by omega)) (by decide) (by decide) ?_
        refine wp_aload_n (pc := 48) dX5_put_48 (by first | rfl | assumption | (repeat first | assumption | rfl | refine aG_n ?_ rfl rfl)) ?_
        refine wp_getR (pc := 49) dX5_put_49 fl_5_9 (by first | rfl | assumption | exact sh_house (by omega) | exact sh_wish (by omega) | exact sh_wor (by omega) | exact sh_bar (by omega) | exact sh_term (by omega) | exact sh_sheet (by omega) | exact sh_items (by omega) | exact sh_sums (by omega)) rfl ?_
        refine wp_iconst (pc := 52) (v := 2) dX5_put_52 (by decide) ?_
        refine wp_iload (pc := 53) dX5_put_53 (by first | rfl | assumption | (repeat first | assumption | rfl | refine aG_n ?_ rfl rfl)) ?_
        refine wp_imul (pc := 55) dX5_put_55 ?_
        refine wp_iconst (pc := 56) (v := 1) dX5_put_56 (by decide) ?_
        refine wp_iadd (pc := 57) dX5_put_57 ?_
        refine wp_ialdC (pc := 58) (j := 7) dX5_put_58 (by first | rfl | assumption | exact sh_house (by omega) | exact sh_wish (by omega) | exact sh_wor (by omega) | exact sh_bar (by omega) | exact sh_term (by omega) | exact sh_sheet (by omega) | exact sh_items (by omega) | exact sh_sums (by omega)) (by decide) (by decide) ?_
        refine wp_cS (pc := 59) dX5_put_59 lk_5_13 rfl rfl rfl (c_X5_sum (aK_i ?_))
        refine wp_iastC (pc := 62) (j := 3) dX5_put_62 (by first | rfl | assumption | exact sh_house (by omega) | exact sh_wish (by omega) | exact sh_wor (by omega) | exact sh_bar (by omega) | exact sh_term (by omega) | exact sh_sheet (by omega) | exact sh_items (by omega) | exact sh_sums (by omega)) (by decide) (by decide) ?_
        refine wp_iload (pc := 63) dX5_put_63 (by first | rfl | assumption | (repeat first | assumption | rfl | refine aG_n ?_ rfl rfl)) ?_
        refine wp_iconst (pc := 65) (v := 2) dX5_put_65 (by decide) ?_
        refine wp_idiv (pc := 66) dX5_put_66 (by decide) ?_
        refine wp_istore (pc := 67) dX5_put_67 (by decide) ?_
        refine wp_goto (pc := 69) (tgt := 28) dX5_put_69 rfl ?_
        refine wp_iload (pc := 28) dX5_put_28 (by first | rfl | assumption | (repeat first | assumption | rfl | refine aG_n ?_ rfl rfl)) ?_
        refine wp_if_le (pc := 30) (tgt := 72) dX5_put_30 rfl (fun q => absurd q (by decide)) (fun _ => ?_)
        refine wp_aload_n (pc := 33) dX5_put_33 (by first | rfl | assumption | (repeat first | assumption | rfl | refine aG_n ?_ rfl rfl)) ?_
        refine wp_getR (pc := 34) dX5_put_34 fl_5_9 (by first | rfl | assumption | exact sh_house (by omega) | exact sh_wish (by omega) | exact sh_wor (by omega) | exact sh_bar (by omega) | exact sh_term (by omega) | exact sh_sheet (by omega) | exact sh_items (by omega) | exact sh_sums (by omega)) rfl ?_
        refine wp_iload (pc := 37) dX5_put_37 (by first | rfl | assumption | (repeat first | assumption | rfl | refine aG_n ?_ rfl rfl)) ?_
        refine wp_aload_n (pc := 39) dX5_put_39 (by first | rfl | assumption | (repeat first | assumption | rfl | refine aG_n ?_ rfl rfl)) ?_
        refine wp_getR (pc := 40) dX5_put_40 fl_5_9 (by first | rfl | assumption | exact sh_house (by omega) | exact sh_wish (by omega) | exact sh_wor (by omega) | exact sh_bar (by omega) | exact sh_term (by omega) | exact sh_sheet (by omega) | exact sh_items (by omega) | exact sh_sums (by omega)) rfl ?_
        refine wp_iconst (pc := 43) (v := 2) dX5_put_43 (by decide) ?_
        refine wp_iload (pc := 44) dX5_put_44 (by first | rfl | assumption | (repeat first | assumption | rfl | refine aG_n ?_ rfl rfl)) ?_
        refine wp_imul (pc := 46) dX5_put_46 ?_
        refine wp_ialdC (pc := 47) (j := 2) dX5_put_47 (by first | rfl | assumption | exact sh_house (by omega) | exact sh_wish (by omega) | exact sh_wor (by omega) | exact sh_bar (by omega) | exact sh_term (by omega) | exact sh_sheet (by omega) | exact sh_items (by omega) | exact sh_sums (by omega)) (by decide) (by decide) ?_
        refine wp_aload_n (pc := 48) dX5_put_48 (by first | rfl | assumption | (repeat first | assumption | rfl | refine aG_n ?_ rfl rfl)) ?_
        refine wp_getR (pc := 49) dX5_put_49 fl_5_9 (by first | rfl | assumption | exact sh_house (by omega) | exact sh_wish (by omega) | exact sh_wor (by omega) | exact sh_bar (by omega) | exact sh_term (by omega) | exact sh_sheet (by omega) | exact sh_items (by omega) | exact sh_sums (by omega)) rfl ?_
        refine wp_iconst (pc := 52) (v := 2) dX5_put_52 (by decide) ?_
        refine wp_iload (pc := 53) dX5_put_53 (by first | rfl | assumption | (repeat first | assumption | rfl | refine aG_n ?_ rfl rfl)) ?_
        refine wp_imul (pc := 55) dX5_put_55 ?_
        refine wp_iconst (pc := 56) (v := 1) dX5_put_56 (by decide) ?_
        refine wp_iadd (pc := 57) dX5_put_57 ?_
        refine wp_ialdC (pc := 58) (j := 3) dX5_put_58 (by first | rfl | assumption | exact sh_house (by omega) | exact sh_wish (by omega) | exact sh_wor (by omega) | exact sh_bar (by omega) | exact sh_term (by omega) | exact sh_sheet (by omega) | exact sh_items (by omega) | exact sh_sums (by omega)) (by decide) (by decide) ?_
        refine wp_cS (pc := 59) dX5_put_59 lk_5_13 rfl rfl rfl (c_X5_sum (aK_i ?_))
        refine wp_iastC (pc := 62) (j := 1) dX5_put_62 (by first | rfl | assumption | exact sh_house (by omega) | exact sh_wish (by omega) | exact sh_wor (by omega) | exact sh_bar (by omega) | exact sh_term (by omega) | exact sh_sheet (by omega) | exact sh_items (by omega) | exact sh_sums (by omega)) (by decide) (by decide) ?_
        refine wp_iload (pc := 63) dX5_put_63 (by first | rfl | assumption | (repeat first | assumption | rfl | refine aG_n ?_ rfl rfl)) ?_
        refine wp_iconst (pc := 65) (v := 2) dX5_put_65 (by decide) ?_
        refine wp_idiv (pc := 66) dX5_put_66 (by decide) ?_
        refine wp_istore (pc := 67) dX5_put_67 (by decide) ?_
        refine wp_goto (pc := 69) (tgt := 28) dX5_put_69 rfl ?_
        refine wp_iload (pc := 28) dX5_put_28 (by first | rfl | assumption | (repeat first | assumption | rfl | refine aG_n ?_ rfl rfl)) ?_
        refine wp_if_le (pc := 30) (tgt := 72) dX5_put_30 rfl (fun _ => ?_) (fun q => absurd q (by decide))
        refine wp_iload_n (pc := 72) dX5_put_72 (by first | rfl | assumption | (repeat first | assumption | rfl | refine aG_n ?_ rfl rfl)) ?_
        refine wp_iretK (pc := 73) dX5_put_73 rfl (by first | rfl | decide | assumption) ?_
        refine wp_ireturn (pc := 32) dX11_row_32 rfl (by first | rfl | decide | assumption) ?_
        refine k _ _ (fun Q' k' => ?_)
        refine wp_iload_n (pc := 0) dX12_row_0 (by first | rfl | assumption | (repeat first | assumption | rfl | refine aG_n ?_ rfl rfl)) ?_
        refine wp_i2l (pc := 1) dX12_row_1 ?_
        refine wp_lconst (pc := 2) (v := 0) dX12_row_2 (by decide) ?_
        refine wp_ldc2 (pc := 3) dX12_row_3 cl_12_347 ?_
        refine wp_cS (pc := 6) dX12_row_6 lk_12_133 rfl rfl rfl (c_X12_in (fun _ => aK_i ?_) (fun q => absurd (by rw [w_int]; exact c1) q))
        refine wp_if_eq (pc := 9) (tgt := 24) dX12_row_9 rfl (fun q => absurd q (by decide)) (fun _ => ?_)
        refine wp_iload_n (pc := 12) dX12_row_12 (by first | rfl | assumption | (repeat first | assumption | rfl | refine aG_n ?_ rfl rfl)) ?_
        refine wp_i2l (pc := 13) dX12_row_13 ?_
        refine wp_lconst (pc := 14) (v := 0) dX12_row_14 (by decide) ?_
        refine wp_ldc2 (pc := 15) dX12_row_15 cl_12_216 ?_
        refine wp_cS (pc := 18) dX12_row_18 lk_12_133 rfl rfl rfl (c_X12_in (fun _ => aK_i ?_) (fun q => absurd (by rw [w_int]; exact c2) q))
        refine wp_if_ne (pc := 21) (tgt := 26) dX12_row_21 rfl (fun _ => ?_) (fun q => absurd q (by decide))
        refine wp_aload_n (pc := 26) dX12_row_26 (by first | rfl | assumption | (repeat first | assumption | rfl | refine aG_n ?_ rfl rfl)) ?_
        refine wp_getR (pc := 27) dX12_row_27 fl_12_119 (by first | rfl | assumption | exact sh_house (by omega) | exact sh_wish (by omega) | exact sh_wor (by omega) | exact sh_bar (by omega) | exact sh_term (by omega) | exact sh_sheet (by omega) | exact sh_items (by omega) | exact sh_sums (by omega)) rfl ?_
        refine wp_iload_n (pc := 30) dX12_row_30 (by first | rfl | assumption | (repeat first | assumption | rfl | refine aG_n ?_ rfl rfl)) ?_
        refine wp_ialdC (pc := 31) (j := 7) dX12_row_31 (by first | rfl | assumption | exact sh_house (by omega) | exact sh_wish (by omega) | exact sh_wor (by omega) | exact sh_bar (by omega) | exact sh_term (by omega) | exact sh_sheet (by omega) | exact sh_items (by omega) | exact sh_sums (by omega)) (by decide) (by decide) ?_
        refine wp_istore_n (pc := 32) dX12_row_32 (by decide) ?_
        refine wp_aload_n (pc := 33) dX12_row_33 (by first | rfl | assumption | (repeat first | assumption | rfl | refine aG_n ?_ rfl rfl)) ?_
        refine wp_getR (pc := 34) dX12_row_34 fl_12_119 (by first | rfl | assumption | exact sh_house (by omega) | exact sh_wish (by omega) | exact sh_wor (by omega) | exact sh_bar (by omega) | exact sh_term (by omega) | exact sh_sheet (by omega) | exact sh_items (by omega) | exact sh_sums (by omega)) rfl ?_
        refine wp_iload_n (pc := 37) dX12_row_37 (by first | rfl | assumption | (repeat first | assumption | rfl | refine aG_n ?_ rfl rfl)) ?_
        refine wp_iload_n (pc := 38) dX12_row_38 (by first | rfl | assumption | (repeat first | assumption | rfl | refine aG_n ?_ rfl rfl)) ?_
        refine wp_iastC (pc := 39) (j := 7) dX12_row_39 (by first | rfl | assumption | exact sh_house (by omega) | exact sh_wish (by omega) | exact sh_wor (by omega) | exact sh_bar (by omega) | exact sh_term (by omega) | exact sh_sheet (by omega) | exact sh_items (by omega) | exact sh_sums (by omega)) (by decide) (by decide) ?_
        refine wp_iload_n (pc := 40) dX12_row_40 (by first | rfl | assumption | (repeat first | assumption | rfl | refine aG_n ?_ rfl rfl)) ?_
        refine wp_ireturn (pc := 41) dX12_row_41 rfl (by first | rfl | decide | assumption) ?_
        refine qEq ?_ (k' _ ?_)
        · simp (disch := omega) only [up2_ne]
          exact (hR.1 7 (by omega)).1.symm
        · refine ⟨own_c (by simp (disch := omega) only [up2_ne, fil_ne]) (fun i9 hi9 => (by simp (disch := omega) only [up2_ne, up2_p, fil_ne, fil_p])) (hI.1), coin_c (by simp (disch := omega) only [up2_ne, fil_ne]) (fun i9 hi9 => (by simp (disch := omega) only [up2_ne, up2_p, fil_ne, fil_p])) (hI.2.1), lev_c ⟨(by simp (disch := omega) only [up2_ne, fil_ne]), (by simp (disch := omega) only [up2_ne, fil_ne]), (by simp (disch := omega) only [up2_ne, fil_ne])⟩ (fun i9 hi9 => ⟨(by simp (disch := omega) only [up2_ne, up2_p, fil_ne, fil_p]), (by simp (disch := omega) only [up2_ne, up2_p, fil_ne, fil_p]), (by simp (disch := omega) only [up2_ne, up2_p, fil_ne, fil_p])⟩) (hI.2.2.1), wish_c ⟨(by simp (disch := omega) only [up2_ne, fil_ne]), (by simp (disch := omega) only [up2_ne, fil_ne]), (by simp (disch := omega) only [up2_ne, fil_ne]), (by simp (disch := omega) only [up2_ne, fil_ne])⟩ (fun i9 hi9 => ⟨(by simp (disch := omega) only [up2_ne, fil_ne]), (by simp (disch := omega) only [up2_ne, fil_ne]), (by simp (disch := omega) only [up2_ne, fil_ne])⟩) (hI.2.2.2.1), tape_c (by simp (disch := omega) only [up2_ne, up2_p, fil_ne, fil_p]) (by simp (disch := omega) only [up2_ne, up2_p, fil_ne, fil_p]) (by simp (disch := omega) only [up2_ne, fil_ne]) (by simp (disch := omega) only [up2_ne, fil_ne]) (hI.2.2.2.2.1), talk_c ⟨(by simp (disch := omega) only [up2_ne, fil_ne]), (by simp (disch := omega) only [up2_ne, fil_ne]), (by simp (disch := omega) only [up2_ne, fil_ne]), (by simp (disch := omega) only [up2_ne, fil_ne]), (by simp (disch := omega) only [up2_ne, fil_ne])⟩ ⟨(by simp (disch := omega) only [up2_ne, fil_ne]), (by simp (disch := omega) only [up2_ne, fil_ne]), (by simp (disch := omega) only [up2_ne, fil_ne])⟩ (fun j9 hj9 hk9 => (by simp (disch := omega) only [up2_ne, up2_p, fil_ne, fil_p])) (fun o9 => ⟨(by simp (disch := omega) only [up2_ne, fil_ne]), (by simp (disch := omega) only [up2_ne, fil_ne])⟩) rfl (hI.2.2.2.2.2.1), led_c (by simp (disch := omega) only [up2_ne, up2_p, fil_ne, fil_p]) (by simp (disch := omega) only [up2_ne, up2_p, fil_ne, fil_p]) (fun i9 hi9 => (by simp (disch := omega) only [up2_ne, fil_ne])) (fun c9 hc9 hd9 => (by simp (disch := omega) only [up2_ne, fil_ne])) ⟨(by simp (disch := omega) only [up2_ne, fil_ne]), (by simp (disch := omega) only [up2_ne, fil_ne])⟩ (hI.2.2.2.2.2.2.1), ?_, sheet_c ⟨(by simp (disch := omega) only [up2_ne, fil_ne]), (by simp (disch := omega) only [up2_ne, fil_ne]), (by simp (disch := omega) only [up2_ne, fil_ne])⟩ (fun s9 hs9 => ⟨(by simp (disch := omega) only [up2_ne, fil_ne]), (by simp (disch := omega) only [up2_ne, fil_ne])⟩) (hI.2.2.2.2.2.2.2.2.1), grp_c (by simp (disch := omega) only [up2_ne, up2_p, fil_ne, fil_p]) (fun g9 hg9 => (by simp (disch := omega) only [up2_ne, fil_ne])) (fun i9 hi9 => ⟨(by simp (disch := omega) only [up2_ne, fil_ne]), (by simp (disch := omega) only [up2_ne, fil_ne])⟩) (hI.2.2.2.2.2.2.2.2.2)⟩
          refine ⟨fun q hq => ?_, fun n h1 h2 => ?_⟩
          · have hh := hR.1 q hq
            match q, hq with
            | 0, _ => simp (disch := omega) only [up2_ne, up2_p, up2_at]; exact hh
            | 1, _ => simp (disch := omega) only [up2_ne, up2_p, up2_at]; exact hh
            | 2, _ => simp (disch := omega) only [up2_ne, up2_p, up2_at]; exact hh
            | 3, _ => simp (disch := omega) only [up2_ne, up2_p, up2_at]; exact hh
            | 4, _ => simp (disch := omega) only [up2_ne, up2_p, up2_at]; exact hh
            | 5, _ => simp (disch := omega) only [up2_ne, up2_p, up2_at]; exact hh
            | 6, _ => simp (disch := omega) only [up2_ne, up2_p, up2_at]; exact hh
            | 7, _ => exact ⟨by simp (disch := omega) only [up2_ne, up2_p, up2_at], by simp (disch := omega) only [up2_ne, up2_p, up2_at]; exact c2⟩
            | _ + 8, hq => omega
          · have hh := hR.2 n h1 h2
            match n, h1, h2 with
            | 0, h1, _ => omega
            | 1, _, _ => simp (disch := omega) only [up2_ne, up2_p, up2_at, Nat.reduceMul, Nat.reduceAdd]
            | 2, _, _ => simp (disch := omega) only [up2_ne, up2_p, up2_at]; exact hh
            | 3, _, _ => simp (disch := omega) only [up2_ne, up2_p, up2_at, Nat.reduceMul, Nat.reduceAdd]
            | 4, _, _ => simp (disch := omega) only [up2_ne, up2_p, up2_at]; exact hh
            | 5, _, _ => simp (disch := omega) only [up2_ne, up2_p, up2_at]; exact hh
            | 6, _, _ => simp (disch := omega) only [up2_ne, up2_p, up2_at]; exact hh
            | 7, _, _ => simp (disch := omega) only [up2_ne, up2_p, up2_at, Nat.reduceMul, Nat.reduceAdd]
            | _ + 8, _, h2 => omega
      | _ + 8, hj => omega
    · skip
      refine wp_iload_n (pc := 0) dX11_row_0 (by first | rfl | assumption | (repeat first | assumption | rfl | refine aG_n ?_ rfl rfl)) ?_
      refine wp_iconst (pc := 1) (v := 0) dX11_row_1 (by decide) ?_
      refine wp_bipush (pc := 2) (v := 7) dX11_row_2 (by decide) ?_
      refine wp_cS (pc := 4) dX11_row_4 lk_11_112 rfl rfl rfl (c_X11_isWithin (fun _ => aK_i ?_) (fun q => absurd c1 q))
      refine wp_if_eq (pc := 7) (tgt := 21) dX11_row_7 rfl (fun q => absurd q (by decide)) (fun _ => ?_)
      refine wp_iload_n (pc := 10) dX11_row_10 (by first | rfl | assumption | (repeat first | assumption | rfl | refine aG_n ?_ rfl rfl)) ?_
      refine wp_iconst (pc := 11) (v := 0) dX11_row_11 (by decide) ?_
      refine wp_sipush (pc := 12) (v := 999) dX11_row_12 (by decide) ?_
      refine wp_cS (pc := 15) dX11_row_15 lk_11_112 rfl rfl rfl (c_X11_isWithin (fun q => absurd q c2) (fun _ => aK_i ?_))
      refine wp_if_ne (pc := 18) (tgt := 23) dX11_row_18 rfl (fun q => absurd q (by decide)) (fun _ => ?_)
      refine wp_iconst (pc := 21) (v := -1) dX11_row_21 (by decide) ?_
      refine wp_ireturn (pc := 22) dX11_row_22 rfl (by first | rfl | decide | assumption) ?_
      refine k _ _ (fun Q' k' => ?_)
      refine wp_iload_n (pc := 0) dX12_row_0 (by first | rfl | assumption | (repeat first | assumption | rfl | refine aG_n ?_ rfl rfl)) ?_
      refine wp_i2l (pc := 1) dX12_row_1 ?_
      refine wp_lconst (pc := 2) (v := 0) dX12_row_2 (by decide) ?_
      refine wp_ldc2 (pc := 3) dX12_row_3 cl_12_347 ?_
      refine wp_cS (pc := 6) dX12_row_6 lk_12_133 rfl rfl rfl (c_X12_in (fun _ => aK_i ?_) (fun q => absurd (by rw [w_int]; exact c1) q))
      refine wp_if_eq (pc := 9) (tgt := 24) dX12_row_9 rfl (fun q => absurd q (by decide)) (fun _ => ?_)
      refine wp_iload_n (pc := 12) dX12_row_12 (by first | rfl | assumption | (repeat first | assumption | rfl | refine aG_n ?_ rfl rfl)) ?_
      refine wp_i2l (pc := 13) dX12_row_13 ?_
      refine wp_lconst (pc := 14) (v := 0) dX12_row_14 (by decide) ?_
      refine wp_ldc2 (pc := 15) dX12_row_15 cl_12_216 ?_
      refine wp_cS (pc := 18) dX12_row_18 lk_12_133 rfl rfl rfl (c_X12_in (fun q => absurd q (by rw [w_int]; exact c2)) (fun _ => aK_i ?_))
      refine wp_if_ne (pc := 21) (tgt := 26) dX12_row_21 rfl (fun q => absurd q (by decide)) (fun _ => ?_)
      refine wp_iconst (pc := 24) (v := -1) dX12_row_24 (by decide) ?_
      refine wp_ireturn (pc := 25) dX12_row_25 rfl (by first | rfl | decide | assumption) ?_
      exact k' _ hI
  · skip
    refine wp_iload_n (pc := 0) dX11_row_0 (by first | rfl | assumption | (repeat first | assumption | rfl | refine aG_n ?_ rfl rfl)) ?_
    refine wp_iconst (pc := 1) (v := 0) dX11_row_1 (by decide) ?_
    refine wp_bipush (pc := 2) (v := 7) dX11_row_2 (by decide) ?_
    refine wp_cS (pc := 4) dX11_row_4 lk_11_112 rfl rfl rfl (c_X11_isWithin (fun q => absurd q c1) (fun _ => aK_i ?_))
    refine wp_if_eq (pc := 7) (tgt := 21) dX11_row_7 rfl (fun _ => ?_) (fun q => absurd q (by decide))
    refine wp_iconst (pc := 21) (v := -1) dX11_row_21 (by decide) ?_
    refine wp_ireturn (pc := 22) dX11_row_22 rfl (by first | rfl | decide | assumption) ?_
    refine k _ _ (fun Q' k' => ?_)
    refine wp_iload_n (pc := 0) dX12_row_0 (by first | rfl | assumption | (repeat first | assumption | rfl | refine aG_n ?_ rfl rfl)) ?_
    refine wp_i2l (pc := 1) dX12_row_1 ?_
    refine wp_lconst (pc := 2) (v := 0) dX12_row_2 (by decide) ?_
    refine wp_ldc2 (pc := 3) dX12_row_3 cl_12_347 ?_
    refine wp_cS (pc := 6) dX12_row_6 lk_12_133 rfl rfl rfl (c_X12_in (fun q => absurd q (by rw [w_int]; exact c1)) (fun _ => aK_i ?_))
    refine wp_if_eq (pc := 9) (tgt := 24) dX12_row_9 rfl (fun _ => ?_) (fun q => absurd q (by decide))
    refine wp_iconst (pc := 24) (v := -1) dX12_row_24 (by decide) ?_
    refine wp_ireturn (pc := 25) dX12_row_25 rfl (by first | rfl | decide | assumption) ?_
    exact k' _ hI
theorem root_eq {M : MM} (h : I_row M) : sm2 (sm2 (sm2 (M 123 0) (M 123 1)) (sm2 (M 123 2) (M 123 3))) (sm2 (sm2 (M 123 4) (M 123 5)) (sm2 (M 123 6) (M 123 7))) = M 53 1 := by
  rw [h.2 1 (by omega) (by omega), h.2 (2 * 1) (by omega) (by omega), h.2 (2 * 1 + 1) (by omega) (by omega), h.2 (2 * (2 * 1)) (by omega) (by omega), h.2 (2 * (2 * 1) + 1) (by omega) (by omega), h.2 (2 * (2 * 1 + 1)) (by omega) (by omega), h.2 (2 * (2 * 1 + 1) + 1) (by omega) (by omega)]
  rw [← (h.1 0 (by omega)).1, ← (h.1 1 (by omega)).1, ← (h.1 2 (by omega)).1, ← (h.1 3 (by omega)).1, ← (h.1 4 (by omega)).1, ← (h.1 5 (by omega)).1, ← (h.1 6 (by omega)).1, ← (h.1 7 (by omega)).1]
theorem J_root : Jnt mX11_root mX12_root [] := by
  intro X μ Q hI k
  have hR := hI.2.2.2.2.2.2.2.1
  refine wp_aload_n (pc := 0) dX11_root_0 (by first | rfl | assumption | (repeat first | assumption | rfl | refine aG_n ?_ rfl rfl)) ?_
  refine wp_getR (pc := 1) dX11_root_1 fl_11_60 (by first | rfl | assumption | exact sh_house (by omega) | exact sh_wish (by omega) | exact sh_wor (by omega) | exact sh_bar (by omega) | exact sh_term (by omega) | exact sh_sheet (by omega) | exact sh_items (by omega) | exact sh_sums (by omega)) rfl ?_
  refine wp_getR (pc := 4) dX11_root_4 fl_11_349 (by first | rfl | assumption | exact sh_house (by omega) | exact sh_wish (by omega) | exact sh_wor (by omega) | exact sh_bar (by omega) | exact sh_term (by omega) | exact sh_sheet (by omega) | exact sh_items (by omega) | exact sh_sums (by omega)) rfl ?_
  refine wp_iconst (pc := 7) (v := 1) dX11_root_7 (by decide) ?_
  refine wp_ialdC (pc := 8) (j := 1) dX11_root_8 (by first | rfl | assumption | exact sh_house (by omega) | exact sh_wish (by omega) | exact sh_wor (by omega) | exact sh_bar (by omega) | exact sh_term (by omega) | exact sh_sheet (by omega) | exact sh_items (by omega) | exact sh_sums (by omega)) (by decide) (by decide) ?_
  refine wp_ireturn (pc := 9) dX11_root_9 rfl (by first | rfl | decide | assumption) ?_
  refine k _ _ (fun Q' k' => ?_)
  refine wp_aload_n (pc := 0) dX12_root_0 (by first | rfl | assumption | (repeat first | assumption | rfl | refine aG_n ?_ rfl rfl)) ?_
  refine wp_iconst (pc := 1) (v := 0) dX12_root_1 (by decide) ?_
  refine wp_bipush (pc := 2) (v := 8) dX12_root_2 (by decide) ?_
  refine wp_cV (pc := 4) dX12_root_4 lk_12_349 rfl (by decide) rfl (by first | rfl | assumption | exact sh_house (by omega) | exact sh_wish (by omega) | exact sh_wor (by omega) | exact sh_bar (by omega) | exact sh_term (by omega) | exact sh_sheet (by omega) | exact sh_items (by omega) | exact sh_sums (by omega)) rfl rfl ?_
  refine wp_aload_n (pc := 0) dX12_sumFrom_0 (by first | rfl | assumption | (repeat first | assumption | rfl | refine aG_n ?_ rfl rfl)) ?_
  refine wp_getR (pc := 1) dX12_sumFrom_1 fl_12_119 (by first | rfl | assumption | exact sh_house (by omega) | exact sh_wish (by omega) | exact sh_wor (by omega) | exact sh_bar (by omega) | exact sh_term (by omega) | exact sh_sheet (by omega) | exact sh_items (by omega) | exact sh_sums (by omega)) rfl ?_
  refine wp_iload_n (pc := 4) dX12_sumFrom_4 (by first | rfl | assumption | (repeat first | assumption | rfl | refine aG_n ?_ rfl rfl)) ?_
  refine wp_ialdC (pc := 5) (j := 0) dX12_sumFrom_5 (by first | rfl | assumption | exact sh_house (by omega) | exact sh_wish (by omega) | exact sh_wor (by omega) | exact sh_bar (by omega) | exact sh_term (by omega) | exact sh_sheet (by omega) | exact sh_items (by omega) | exact sh_sums (by omega)) (by decide) (by decide) ?_
  refine wp_aload_n (pc := 6) dX12_sumFrom_6 (by first | rfl | assumption | (repeat first | assumption | rfl | refine aG_n ?_ rfl rfl)) ?_
  refine wp_getR (pc := 7) dX12_sumFrom_7 fl_12_119 (by first | rfl | assumption | exact sh_house (by omega) | exact sh_wish (by omega) | exact sh_wor (by omega) | exact sh_bar (by omega) | exact sh_term (by omega) | exact sh_sheet (by omega) | exact sh_items (by omega) | exact sh_sums (by omega)) rfl ?_
  refine wp_iload_n (pc := 10) dX12_sumFrom_10 (by first | rfl | assumption | (repeat first | assumption | rfl | refine aG_n ?_ rfl rfl)) ?_
  refine wp_iconst (pc := 11) (v := 1) dX12_sumFrom_11 (by decide) ?_
  refine wp_iadd (pc := 12) dX12_sumFrom_12 ?_
  refine wp_bipush (pc := 13) (v := 8) dX12_sumFrom_13 (by decide) ?_
  refine wp_irem (pc := 15) dX12_sumFrom_15 (by decide) ?_
  refine wp_ialdC (pc := 16) (j := 1) dX12_sumFrom_16 (by first | rfl | assumption | exact sh_house (by omega) | exact sh_wish (by omega) | exact sh_wor (by omega) | exact sh_bar (by omega) | exact sh_term (by omega) | exact sh_sheet (by omega) | exact sh_items (by omega) | exact sh_sums (by omega)) (by decide) (by decide) ?_
  refine wp_cS (pc := 17) dX12_sumFrom_17 lk_12_344 rfl rfl rfl (c_X12_sumOf (aK_i ?_))
  refine wp_istore_n (pc := 20) dX12_sumFrom_20 (by decide) ?_
  refine wp_iload_n (pc := 21) dX12_sumFrom_21 (by first | rfl | assumption | (repeat first | assumption | rfl | refine aG_n ?_ rfl rfl)) ?_
  refine wp_iconst (pc := 22) (v := 4) dX12_sumFrom_22 (by decide) ?_
  refine wp_icmp_ge (pc := 23) (tgt := 42) dX12_sumFrom_23 rfl (fun _ => ?_) (fun q => absurd q (by decide))
  refine wp_iload_n (pc := 42) dX12_sumFrom_42 (by first | rfl | assumption | (repeat first | assumption | rfl | refine aG_n ?_ rfl rfl)) ?_
  refine wp_aload_n (pc := 43) dX12_sumFrom_43 (by first | rfl | assumption | (repeat first | assumption | rfl | refine aG_n ?_ rfl rfl)) ?_
  refine wp_getR (pc := 44) dX12_sumFrom_44 fl_12_119 (by first | rfl | assumption | exact sh_house (by omega) | exact sh_wish (by omega) | exact sh_wor (by omega) | exact sh_bar (by omega) | exact sh_term (by omega) | exact sh_sheet (by omega) | exact sh_items (by omega) | exact sh_sums (by omega)) rfl ?_
  refine wp_iload_n (pc := 47) dX12_sumFrom_47 (by first | rfl | assumption | (repeat first | assumption | rfl | refine aG_n ?_ rfl rfl)) ?_
  refine wp_iconst (pc := 48) (v := 2) dX12_sumFrom_48 (by decide) ?_
  refine wp_iadd (pc := 49) dX12_sumFrom_49 ?_
  refine wp_ialdC (pc := 50) (j := 2) dX12_sumFrom_50 (by first | rfl | assumption | exact sh_house (by omega) | exact sh_wish (by omega) | exact sh_wor (by omega) | exact sh_bar (by omega) | exact sh_term (by omega) | exact sh_sheet (by omega) | exact sh_items (by omega) | exact sh_sums (by omega)) (by decide) (by decide) ?_
  refine wp_aload_n (pc := 51) dX12_sumFrom_51 (by first | rfl | assumption | (repeat first | assumption | rfl | refine aG_n ?_ rfl rfl)) ?_
  refine wp_getR (pc := 52) dX12_sumFrom_52 fl_12_119 (by first | rfl | assumption | exact sh_house (by omega) | exact sh_wish (by omega) | exact sh_wor (by omega) | exact sh_bar (by omega) | exact sh_term (by omega) | exact sh_sheet (by omega) | exact sh_items (by omega) | exact sh_sums (by omega)) rfl ?_
  refine wp_iload_n (pc := 55) dX12_sumFrom_55 (by first | rfl | assumption | (repeat first | assumption | rfl | refine aG_n ?_ rfl rfl)) ?_
  refine wp_iconst (pc := 56) (v := 3) dX12_sumFrom_56 (by decide) ?_
  refine wp_iadd (pc := 57) dX12_sumFrom_57 ?_
  refine wp_ialdC (pc := 58) (j := 3) dX12_sumFrom_58 (by first | rfl | assumption | exact sh_house (by omega) | exact sh_wish (by omega) | exact sh_wor (by omega) | exact sh_bar (by omega) | exact sh_term (by omega) | exact sh_sheet (by omega) | exact sh_items (by omega) | exact sh_sums (by omega)) (by decide) (by decide) ?_
  refine wp_cS (pc := 59) dX12_sumFrom_59 lk_12_344 rfl rfl rfl (c_X12_sumOf (aK_i ?_))
  refine wp_cS (pc := 62) dX12_sumFrom_62 lk_12_344 rfl rfl rfl (c_X12_sumOf (aK_i ?_))
  refine wp_istore (pc := 65) dX12_sumFrom_65 (by decide) ?_
  refine wp_iload_n (pc := 67) dX12_sumFrom_67 (by first | rfl | assumption | (repeat first | assumption | rfl | refine aG_n ?_ rfl rfl)) ?_
  refine wp_iconst (pc := 68) (v := 4) dX12_sumFrom_68 (by decide) ?_
  refine wp_icmp_ne (pc := 69) (tgt := 75) dX12_sumFrom_69 rfl (fun _ => ?_) (fun q => absurd q (by decide))
  refine wp_iload (pc := 75) dX12_sumFrom_75 (by first | rfl | assumption | (repeat first | assumption | rfl | refine aG_n ?_ rfl rfl)) ?_
  refine wp_aload_n (pc := 77) dX12_sumFrom_77 (by first | rfl | assumption | (repeat first | assumption | rfl | refine aG_n ?_ rfl rfl)) ?_
  refine wp_getR (pc := 78) dX12_sumFrom_78 fl_12_119 (by first | rfl | assumption | exact sh_house (by omega) | exact sh_wish (by omega) | exact sh_wor (by omega) | exact sh_bar (by omega) | exact sh_term (by omega) | exact sh_sheet (by omega) | exact sh_items (by omega) | exact sh_sums (by omega)) rfl ?_
  refine wp_iconst (pc := 81) (v := 4) dX12_sumFrom_81 (by decide) ?_
  refine wp_ialdC (pc := 82) (j := 4) dX12_sumFrom_82 (by first | rfl | assumption | exact sh_house (by omega) | exact sh_wish (by omega) | exact sh_wor (by omega) | exact sh_bar (by omega) | exact sh_term (by omega) | exact sh_sheet (by omega) | exact sh_items (by omega) | exact sh_sums (by omega)) (by decide) (by decide) ?_
  refine wp_aload_n (pc := 83) dX12_sumFrom_83 (by first | rfl | assumption | (repeat first | assumption | rfl | refine aG_n ?_ rfl rfl)) ?_
  refine wp_getR (pc := 84) dX12_sumFrom_84 fl_12_119 (by first | rfl | assumption | exact sh_house (by omega) | exact sh_wish (by omega) | exact sh_wor (by omega) | exact sh_bar (by omega) | exact sh_term (by omega) | exact sh_sheet (by omega) | exact sh_items (by omega) | exact sh_sums (by omega)) rfl ?_
  refine wp_iconst (pc := 87) (v := 5) dX12_sumFrom_87 (by decide) ?_
  refine wp_ialdC (pc := 88) (j := 5) dX12_sumFrom_88 (by first | rfl | assumption | exact sh_house (by omega) | exact sh_wish (by omega) | exact sh_wor (by omega) | exact sh_bar (by omega) | exact sh_term (by omega) | exact sh_sheet (by omega) | exact sh_items (by omega) | exact sh_sums (by omega)) (by decide) (by decide) ?_
  refine wp_cS (pc := 89) dX12_sumFrom_89 lk_12_344 rfl rfl rfl (c_X12_sumOf (aK_i ?_))
  refine wp_aload_n (pc := 92) dX12_sumFrom_92 (by first | rfl | assumption | (repeat first | assumption | rfl | refine aG_n ?_ rfl rfl)) ?_
  refine wp_getR (pc := 93) dX12_sumFrom_93 fl_12_119 (by first | rfl | assumption | exact sh_house (by omega) | exact sh_wish (by omega) | exact sh_wor (by omega) | exact sh_bar (by omega) | exact sh_term (by omega) | exact sh_sheet (by omega) | exact sh_items (by omega) | exact sh_sums (by omega)) rfl ?_
  refine wp_bipush (pc := 96) (v := 6) dX12_sumFrom_96 (by decide) ?_
  refine wp_ialdC (pc := 98) (j := 6) dX12_sumFrom_98 (by first | rfl | assumption | exact sh_house (by omega) | exact sh_wish (by omega) | exact sh_wor (by omega) | exact sh_bar (by omega) | exact sh_term (by omega) | exact sh_sheet (by omega) | exact sh_items (by omega) | exact sh_sums (by omega)) (by decide) (by decide) ?_
  refine wp_aload_n (pc := 99) dX12_sumFrom_99 (by first | rfl | assumption | (repeat first | assumption | rfl | refine aG_n ?_ rfl rfl)) ?_
  refine wp_getR (pc := 100) dX12_sumFrom_100 fl_12_119 (by first | rfl | assumption | exact sh_house (by omega) | exact sh_wish (by omega) | exact sh_wor (by omega) | exact sh_bar (by omega) | exact sh_term (by omega) | exact sh_sheet (by omega) | exact sh_items (by omega) | exact sh_sums (by omega)) rfl ?_
  refine wp_bipush (pc := 103) (v := 7) dX12_sumFrom_103 (by decide) ?_
  refine wp_ialdC (pc := 105) (j := 7) dX12_sumFrom_105 (by first | rfl | assumption | exact sh_house (by omega) | exact sh_wish (by omega) | exact sh_wor (by omega) | exact sh_bar (by omega) | exact sh_term (by omega) | exact sh_sheet (by omega) | exact sh_items (by omega) | exact sh_sums (by omega)) (by decide) (by decide) ?_
  refine wp_cS (pc := 106) dX12_sumFrom_106 lk_12_344 rfl rfl rfl (c_X12_sumOf (aK_i ?_))
  refine wp_cS (pc := 109) dX12_sumFrom_109 lk_12_344 rfl rfl rfl (c_X12_sumOf (aK_i ?_))
  refine wp_cS (pc := 112) dX12_sumFrom_112 lk_12_344 rfl rfl rfl (c_X12_sumOf (aK_i ?_))
  refine wp_iretK (pc := 115) dX12_sumFrom_115 rfl (by first | rfl | decide | assumption) ?_
  refine wp_ireturn (pc := 7) dX12_root_7 rfl (by first | rfl | decide | assumption) ?_
  refine qEq ?_ (k' _ hI)
  exact root_eq hR
theorem J_proof (i w : Int32) : Jnt mX11_proof mX12_proof [.int i, .int w] := by
  intro X μ Q hI k
  have hR := hI.2.2.2.2.2.2.2.1
  by_cases c1 : inR i 0 7
  · by_cases c2 : inR w 0 2
    · obtain ⟨j, hj, rfl⟩ := inR_of (n := 7) c1
      obtain ⟨t, ht, rfl⟩ := inR_of (n := 2) c2
      match j, hj, t, ht with
      | 0, _, 0, _ =>
        refine wp_iload_n (pc := 0) dX11_proof_0 (by first | rfl | assumption | (repeat first | assumption | rfl | refine aG_n ?_ rfl rfl)) ?_
        refine wp_iconst (pc := 1) (v := 0) dX11_proof_1 (by decide) ?_
        refine wp_bipush (pc := 2) (v := 7) dX11_proof_2 (by decide) ?_
        refine wp_cS (pc := 4) dX11_proof_4 lk_11_112 rfl rfl rfl (c_X11_isWithin (fun _ => aK_i ?_) (fun q => absurd c1 q))
        refine wp_if_eq (pc := 7) (tgt := 19) dX11_proof_7 rfl (fun q => absurd q (by decide)) (fun _ => ?_)
        refine wp_iload_n (pc := 10) dX11_proof_10 (by first | rfl | assumption | (repeat first | assumption | rfl | refine aG_n ?_ rfl rfl)) ?_
        refine wp_iconst (pc := 11) (v := 0) dX11_proof_11 (by decide) ?_
        refine wp_iconst (pc := 12) (v := 2) dX11_proof_12 (by decide) ?_
        refine wp_cS (pc := 13) dX11_proof_13 lk_11_112 rfl rfl rfl (c_X11_isWithin (fun _ => aK_i ?_) (fun q => absurd c2 q))
        refine wp_if_ne (pc := 16) (tgt := 21) dX11_proof_16 rfl (fun _ => ?_) (fun q => absurd q (by decide))
        refine wp_aload_n (pc := 21) dX11_proof_21 (by first | rfl | assumption | (repeat first | assumption | rfl | refine aG_n ?_ rfl rfl)) ?_
        refine wp_getR (pc := 22) dX11_proof_22 fl_11_60 (by first | rfl | assumption | exact sh_house (by omega) | exact sh_wish (by omega) | exact sh_wor (by omega) | exact sh_bar (by omega) | exact sh_term (by omega) | exact sh_sheet (by omega) | exact sh_items (by omega) | exact sh_sums (by omega)) rfl ?_
        refine wp_iload_n (pc := 25) dX11_proof_25 (by first | rfl | assumption | (repeat first | assumption | rfl | refine aG_n ?_ rfl rfl)) ?_
        refine wp_iload_n (pc := 26) dX11_proof_26 (by first | rfl | assumption | (repeat first | assumption | rfl | refine aG_n ?_ rfl rfl)) ?_
        refine wp_cV (pc := 27) dX11_proof_27 lk_11_352 rfl (by decide) rfl (by first | rfl | assumption | exact sh_house (by omega) | exact sh_wish (by omega) | exact sh_wor (by omega) | exact sh_bar (by omega) | exact sh_term (by omega) | exact sh_sheet (by omega) | exact sh_items (by omega) | exact sh_sums (by omega)) rfl rfl ?_
        refine wp_aload_n (pc := 0) dX5_beside_0 (by first | rfl | assumption | (repeat first | assumption | rfl | refine aG_n ?_ rfl rfl)) ?_
        refine wp_getR (pc := 1) dX5_beside_1 fl_5_9 (by first | rfl | assumption | exact sh_house (by omega) | exact sh_wish (by omega) | exact sh_wor (by omega) | exact sh_bar (by omega) | exact sh_term (by omega) | exact sh_sheet (by omega) | exact sh_items (by omega) | exact sh_sums (by omega)) rfl ?_
        refine wp_bipush (pc := 4) (v := 8) dX5_beside_4 (by decide) ?_
        refine wp_iload_n (pc := 6) dX5_beside_6 (by first | rfl | assumption | (repeat first | assumption | rfl | refine aG_n ?_ rfl rfl)) ?_
        refine wp_iadd (pc := 7) dX5_beside_7 ?_
        refine wp_iload_n (pc := 8) dX5_beside_8 (by first | rfl | assumption | (repeat first | assumption | rfl | refine aG_n ?_ rfl rfl)) ?_
        refine wp_ishr (pc := 9) dX5_beside_9 ?_
        refine wp_iconst (pc := 10) (v := 1) dX5_beside_10 (by decide) ?_
        refine wp_ixor (pc := 11) dX5_beside_11 ?_
        refine wp_ialdC (pc := 12) (j := 9) dX5_beside_12 (by first | rfl | assumption | exact sh_house (by omega) | exact sh_wish (by omega) | exact sh_wor (by omega) | exact sh_bar (by omega) | exact sh_term (by omega) | exact sh_sheet (by omega) | exact sh_items (by omega) | exact sh_sums (by omega)) (by decide) (by decide) ?_
        refine wp_iretK (pc := 13) dX5_beside_13 rfl (by first | rfl | decide | assumption) ?_
        refine wp_ireturn (pc := 30) dX11_proof_30 rfl (by first | rfl | decide | assumption) ?_
        refine k _ _ (fun Q' k' => ?_)
        refine wp_iload_n (pc := 0) dX12_proof_0 (by first | rfl | assumption | (repeat first | assumption | rfl | refine aG_n ?_ rfl rfl)) ?_
        refine wp_i2l (pc := 1) dX12_proof_1 ?_
        refine wp_lconst (pc := 2) (v := 0) dX12_proof_2 (by decide) ?_
        refine wp_ldc2 (pc := 3) dX12_proof_3 cl_12_347 ?_
        refine wp_cS (pc := 6) dX12_proof_6 lk_12_133 rfl rfl rfl (c_X12_in (fun _ => aK_i ?_) (fun q => absurd (by rw [w_int]; exact c1) q))
        refine wp_if_eq (pc := 9) (tgt := 24) dX12_proof_9 rfl (fun q => absurd q (by decide)) (fun _ => ?_)
        refine wp_iload_n (pc := 12) dX12_proof_12 (by first | rfl | assumption | (repeat first | assumption | rfl | refine aG_n ?_ rfl rfl)) ?_
        refine wp_i2l (pc := 13) dX12_proof_13 ?_
        refine wp_lconst (pc := 14) (v := 0) dX12_proof_14 (by decide) ?_
        refine wp_ldc2 (pc := 15) dX12_proof_15 cl_12_212 ?_
        refine wp_cS (pc := 18) dX12_proof_18 lk_12_133 rfl rfl rfl (c_X12_in (fun _ => aK_i ?_) (fun q => absurd (by rw [w_int]; exact c2) q))
        refine wp_if_ne (pc := 21) (tgt := 26) dX12_proof_21 rfl (fun _ => ?_) (fun q => absurd q (by decide))
        refine wp_iconst (pc := 26) (v := 1) dX12_proof_26 (by decide) ?_
        refine wp_iload_n (pc := 27) dX12_proof_27 (by first | rfl | assumption | (repeat first | assumption | rfl | refine aG_n ?_ rfl rfl)) ?_
        refine wp_ishl (pc := 28) dX12_proof_28 ?_
        refine wp_istore_n (pc := 29) dX12_proof_29 (by decide) ?_
        refine wp_aload_n (pc := 30) dX12_proof_30 (by first | rfl | assumption | (repeat first | assumption | rfl | refine aG_n ?_ rfl rfl)) ?_
        refine wp_iload_n (pc := 31) dX12_proof_31 (by first | rfl | assumption | (repeat first | assumption | rfl | refine aG_n ?_ rfl rfl)) ?_
        refine wp_iload_n (pc := 32) dX12_proof_32 (by first | rfl | assumption | (repeat first | assumption | rfl | refine aG_n ?_ rfl rfl)) ?_
        refine wp_idiv (pc := 33) dX12_proof_33 (by decide) ?_
        refine wp_iconst (pc := 34) (v := 1) dX12_proof_34 (by decide) ?_
        refine wp_ixor (pc := 35) dX12_proof_35 ?_
        refine wp_iload_n (pc := 36) dX12_proof_36 (by first | rfl | assumption | (repeat first | assumption | rfl | refine aG_n ?_ rfl rfl)) ?_
        refine wp_imul (pc := 37) dX12_proof_37 ?_
        refine wp_iload_n (pc := 38) dX12_proof_38 (by first | rfl | assumption | (repeat first | assumption | rfl | refine aG_n ?_ rfl rfl)) ?_
        refine wp_cV (pc := 39) dX12_proof_39 lk_12_349 rfl (by decide) rfl (by first | rfl | assumption | exact sh_house (by omega) | exact sh_wish (by omega) | exact sh_wor (by omega) | exact sh_bar (by omega) | exact sh_term (by omega) | exact sh_sheet (by omega) | exact sh_items (by omega) | exact sh_sums (by omega)) rfl rfl ?_
        refine wp_aload_n (pc := 0) dX12_sumFrom_0 (by first | rfl | assumption | (repeat first | assumption | rfl | refine aG_n ?_ rfl rfl)) ?_
        refine wp_getR (pc := 1) dX12_sumFrom_1 fl_12_119 (by first | rfl | assumption | exact sh_house (by omega) | exact sh_wish (by omega) | exact sh_wor (by omega) | exact sh_bar (by omega) | exact sh_term (by omega) | exact sh_sheet (by omega) | exact sh_items (by omega) | exact sh_sums (by omega)) rfl ?_
        refine wp_iload_n (pc := 4) dX12_sumFrom_4 (by first | rfl | assumption | (repeat first | assumption | rfl | refine aG_n ?_ rfl rfl)) ?_
        refine wp_ialdC (pc := 5) (j := 1) dX12_sumFrom_5 (by first | rfl | assumption | exact sh_house (by omega) | exact sh_wish (by omega) | exact sh_wor (by omega) | exact sh_bar (by omega) | exact sh_term (by omega) | exact sh_sheet (by omega) | exact sh_items (by omega) | exact sh_sums (by omega)) (by decide) (by decide) ?_
        refine wp_aload_n (pc := 6) dX12_sumFrom_6 (by first | rfl | assumption | (repeat first | assumption | rfl | refine aG_n ?_ rfl rfl)) ?_
        refine wp_getR (pc := 7) dX12_sumFrom_7 fl_12_119 (by first | rfl | assumption | exact sh_house (by omega) | exact sh_wish (by omega) | exact sh_wor (by omega) | exact sh_bar (by omega) | exact sh_term (by omega) | exact sh_sheet (by omega) | exact sh_items (by omega) | exact sh_sums (by omega)) rfl ?_
        refine wp_iload_n (pc := 10) dX12_sumFrom_10 (by first | rfl | assumption | (repeat first | assumption | rfl | refine aG_n ?_ rfl rfl)) ?_
        refine wp_iconst (pc := 11) (v := 1) dX12_sumFrom_11 (by decide) ?_
        refine wp_iadd (pc := 12) dX12_sumFrom_12 ?_
        refine wp_bipush (pc := 13) (v := 8) dX12_sumFrom_13 (by decide) ?_
        refine wp_irem (pc := 15) dX12_sumFrom_15 (by decide) ?_
        refine wp_ialdC (pc := 16) (j := 2) dX12_sumFrom_16 (by first | rfl | assumption | exact sh_house (by omega) | exact sh_wish (by omega) | exact sh_wor (by omega) | exact sh_bar (by omega) | exact sh_term (by omega) | exact sh_sheet (by omega) | exact sh_items (by omega) | exact sh_sums (by omega)) (by decide) (by decide) ?_
        refine wp_cS (pc := 17) dX12_sumFrom_17 lk_12_344 rfl rfl rfl (c_X12_sumOf (aK_i ?_))
        refine wp_istore_n (pc := 20) dX12_sumFrom_20 (by decide) ?_
        refine wp_iload_n (pc := 21) dX12_sumFrom_21 (by first | rfl | assumption | (repeat first | assumption | rfl | refine aG_n ?_ rfl rfl)) ?_
        refine wp_iconst (pc := 22) (v := 4) dX12_sumFrom_22 (by decide) ?_
        refine wp_icmp_ge (pc := 23) (tgt := 42) dX12_sumFrom_23 rfl (fun q => absurd q (by decide)) (fun _ => ?_)
        refine wp_iload_n (pc := 26) dX12_sumFrom_26 (by first | rfl | assumption | (repeat first | assumption | rfl | refine aG_n ?_ rfl rfl)) ?_
        refine wp_iconst (pc := 27) (v := 1) dX12_sumFrom_27 (by decide) ?_
        refine wp_icmp_ne (pc := 28) (tgt := 40) dX12_sumFrom_28 rfl (fun q => absurd q (by decide)) (fun _ => ?_)
        refine wp_aload_n (pc := 31) dX12_sumFrom_31 (by first | rfl | assumption | (repeat first | assumption | rfl | refine aG_n ?_ rfl rfl)) ?_
        refine wp_getR (pc := 32) dX12_sumFrom_32 fl_12_119 (by first | rfl | assumption | exact sh_house (by omega) | exact sh_wish (by omega) | exact sh_wor (by omega) | exact sh_bar (by omega) | exact sh_term (by omega) | exact sh_sheet (by omega) | exact sh_items (by omega) | exact sh_sums (by omega)) rfl ?_
        refine wp_iload_n (pc := 35) dX12_sumFrom_35 (by first | rfl | assumption | (repeat first | assumption | rfl | refine aG_n ?_ rfl rfl)) ?_
        refine wp_ialdC (pc := 36) (j := 1) dX12_sumFrom_36 (by first | rfl | assumption | exact sh_house (by omega) | exact sh_wish (by omega) | exact sh_wor (by omega) | exact sh_bar (by omega) | exact sh_term (by omega) | exact sh_sheet (by omega) | exact sh_items (by omega) | exact sh_sums (by omega)) (by decide) (by decide) ?_
        refine wp_goto (pc := 37) (tgt := 41) dX12_sumFrom_37 rfl ?_
        refine wp_iretK (pc := 41) dX12_sumFrom_41 rfl (by first | rfl | decide | assumption) ?_
        refine wp_ireturn (pc := 42) dX12_proof_42 rfl (by first | rfl | decide | assumption) ?_
        refine qEq ?_ (k' _ hI)
        exact (hR.1 1 (by omega)).1.symm
      | 0, _, 1, _ =>
        refine wp_iload_n (pc := 0) dX11_proof_0 (by first | rfl | assumption | (repeat first | assumption | rfl | refine aG_n ?_ rfl rfl)) ?_
        refine wp_iconst (pc := 1) (v := 0) dX11_proof_1 (by decide) ?_
        refine wp_bipush (pc := 2) (v := 7) dX11_proof_2 (by decide) ?_
        refine wp_cS (pc := 4) dX11_proof_4 lk_11_112 rfl rfl rfl (c_X11_isWithin (fun _ => aK_i ?_) (fun q => absurd c1 q))
        refine wp_if_eq (pc := 7) (tgt := 19) dX11_proof_7 rfl (fun q => absurd q (by decide)) (fun _ => ?_)
        refine wp_iload_n (pc := 10) dX11_proof_10 (by first | rfl | assumption | (repeat first | assumption | rfl | refine aG_n ?_ rfl rfl)) ?_
        refine wp_iconst (pc := 11) (v := 0) dX11_proof_11 (by decide) ?_
        refine wp_iconst (pc := 12) (v := 2) dX11_proof_12 (by decide) ?_
        refine wp_cS (pc := 13) dX11_proof_13 lk_11_112 rfl rfl rfl (c_X11_isWithin (fun _ => aK_i ?_) (fun q => absurd c2 q))
        refine wp_if_ne (pc := 16) (tgt := 21) dX11_proof_16 rfl (fun _ => ?_) (fun q => absurd q (by decide))
        refine wp_aload_n (pc := 21) dX11_proof_21 (by first | rfl | assumption | (repeat first | assumption | rfl | refine aG_n ?_ rfl rfl)) ?_
        refine wp_getR (pc := 22) dX11_proof_22 fl_11_60 (by first | rfl | assumption | exact sh_house (by omega) | exact sh_wish (by omega) | exact sh_wor (by omega) | exact sh_bar (by omega) | exact sh_term (by omega) | exact sh_sheet (by omega) | exact sh_items (by omega) | exact sh_sums (by omega)) rfl ?_
        refine wp_iload_n (pc := 25) dX11_proof_25 (by first | rfl | assumption | (repeat first | assumption | rfl | refine aG_n ?_ rfl rfl)) ?_
        refine wp_iload_n (pc := 26) dX11_proof_26 (by first | rfl | assumption | (repeat first | assumption | rfl | refine aG_n ?_ rfl rfl)) ?_
        refine wp_cV (pc := 27) dX11_proof_27 lk_11_352 rfl (by decide) rfl (by first | rfl | assumption | exact sh_house (by omega) | exact sh_wish (by omega) | exact sh_wor (by omega) | exact sh_bar (by omega) | exact sh_term (by omega) | exact sh_sheet (by omega) | exact sh_items (by omega) | exact sh_sums (by omega)) rfl rfl ?_
        refine wp_aload_n (pc := 0) dX5_beside_0 (by first | rfl | assumption | (repeat first | assumption | rfl | refine aG_n ?_ rfl rfl)) ?_
        refine wp_getR (pc := 1) dX5_beside_1 fl_5_9 (by first | rfl | assumption | exact sh_house (by omega) | exact sh_wish (by omega) | exact sh_wor (by omega) | exact sh_bar (by omega) | exact sh_term (by omega) | exact sh_sheet (by omega) | exact sh_items (by omega) | exact sh_sums (by omega)) rfl ?_
        refine wp_bipush (pc := 4) (v := 8) dX5_beside_4 (by decide) ?_
        refine wp_iload_n (pc := 6) dX5_beside_6 (by first | rfl | assumption | (repeat first | assumption | rfl | refine aG_n ?_ rfl rfl)) ?_
        refine wp_iadd (pc := 7) dX5_beside_7 ?_
        refine wp_iload_n (pc := 8) dX5_beside_8 (by first | rfl | assumption | (repeat first | assumption | rfl | refine aG_n ?_ rfl rfl)) ?_
        refine wp_ishr (pc := 9) dX5_beside_9 ?_
        refine wp_iconst (pc := 10) (v := 1) dX5_beside_10 (by decide) ?_
        refine wp_ixor (pc := 11) dX5_beside_11 ?_
        refine wp_ialdC (pc := 12) (j := 5) dX5_beside_12 (by first | rfl | assumption | exact sh_house (by omega) | exact sh_wish (by omega) | exact sh_wor (by omega) | exact sh_bar (by omega) | exact sh_term (by omega) | exact sh_sheet (by omega) | exact sh_items (by omega) | exact sh_sums (by omega)) (by decide) (by decide) ?_
        refine wp_iretK (pc := 13) dX5_beside_13 rfl (by first | rfl | decide | assumption) ?_
        refine wp_ireturn (pc := 30) dX11_proof_30 rfl (by first | rfl | decide | assumption) ?_
        refine k _ _ (fun Q' k' => ?_)
        refine wp_iload_n (pc := 0) dX12_proof_0 (by first | rfl | assumption | (repeat first | assumption | rfl | refine aG_n ?_ rfl rfl)) ?_
        refine wp_i2l (pc := 1) dX12_proof_1 ?_
        refine wp_lconst (pc := 2) (v := 0) dX12_proof_2 (by decide) ?_
        refine wp_ldc2 (pc := 3) dX12_proof_3 cl_12_347 ?_
        refine wp_cS (pc := 6) dX12_proof_6 lk_12_133 rfl rfl rfl (c_X12_in (fun _ => aK_i ?_) (fun q => absurd (by rw [w_int]; exact c1) q))
        refine wp_if_eq (pc := 9) (tgt := 24) dX12_proof_9 rfl (fun q => absurd q (by decide)) (fun _ => ?_)
        refine wp_iload_n (pc := 12) dX12_proof_12 (by first | rfl | assumption | (repeat first | assumption | rfl | refine aG_n ?_ rfl rfl)) ?_
        refine wp_i2l (pc := 13) dX12_proof_13 ?_
        refine wp_lconst (pc := 14) (v := 0) dX12_proof_14 (by decide) ?_
        refine wp_ldc2 (pc := 15) dX12_proof_15 cl_12_212 ?_
        refine wp_cS (pc := 18) dX12_proof_18 lk_12_133 rfl rfl rfl (c_X12_in (fun _ => aK_i ?_) (fun q => absurd (by rw [w_int]; exact c2) q))
        refine wp_if_ne (pc := 21) (tgt := 26) dX12_proof_21 rfl (fun _ => ?_) (fun q => absurd q (by decide))
        refine wp_iconst (pc := 26) (v := 1) dX12_proof_26 (by decide) ?_
        refine wp_iload_n (pc := 27) dX12_proof_27 (by first | rfl | assumption | (repeat first | assumption | rfl | refine aG_n ?_ rfl rfl)) ?_
        refine wp_ishl (pc := 28) dX12_proof_28 ?_
        refine wp_istore_n (pc := 29) dX12_proof_29 (by decide) ?_
        refine wp_aload_n (pc := 30) dX12_proof_30 (by first | rfl | assumption | (repeat first | assumption | rfl | refine aG_n ?_ rfl rfl)) ?_
        refine wp_iload_n (pc := 31) dX12_proof_31 (by first | rfl | assumption | (repeat first | assumption | rfl | refine aG_n ?_ rfl rfl)) ?_
        refine wp_iload_n (pc := 32) dX12_proof_32 (by first | rfl | assumption | (repeat first | assumption | rfl | refine aG_n ?_ rfl rfl)) ?_
        refine wp_idiv (pc := 33) dX12_proof_33 (by decide) ?_
        refine wp_iconst (pc := 34) (v := 1) dX12_proof_34 (by decide) ?_
        refine wp_ixor (pc := 35) dX12_proof_35 ?_
        refine wp_iload_n (pc := 36) dX12_proof_36 (by first | rfl | assumption | (repeat first | assumption | rfl | refine aG_n ?_ rfl rfl)) ?_
        refine wp_imul (pc := 37) dX12_proof_37 ?_
        refine wp_iload_n (pc := 38) dX12_proof_38 (by first | rfl | assumption | (repeat first | assumption | rfl | refine aG_n ?_ rfl rfl)) ?_
        refine wp_cV (pc := 39) dX12_proof_39 lk_12_349 rfl (by decide) rfl (by first | rfl | assumption | exact sh_house (by omega) | exact sh_wish (by omega) | exact sh_wor (by omega) | exact sh_bar (by omega) | exact sh_term (by omega) | exact sh_sheet (by omega) | exact sh_items (by omega) | exact sh_sums (by omega)) rfl rfl ?_
        refine wp_aload_n (pc := 0) dX12_sumFrom_0 (by first | rfl | assumption | (repeat first | assumption | rfl | refine aG_n ?_ rfl rfl)) ?_
        refine wp_getR (pc := 1) dX12_sumFrom_1 fl_12_119 (by first | rfl | assumption | exact sh_house (by omega) | exact sh_wish (by omega) | exact sh_wor (by omega) | exact sh_bar (by omega) | exact sh_term (by omega) | exact sh_sheet (by omega) | exact sh_items (by omega) | exact sh_sums (by omega)) rfl ?_
        refine wp_iload_n (pc := 4) dX12_sumFrom_4 (by first | rfl | assumption | (repeat first | assumption | rfl | refine aG_n ?_ rfl rfl)) ?_
        refine wp_ialdC (pc := 5) (j := 2) dX12_sumFrom_5 (by first | rfl | assumption | exact sh_house (by omega) | exact sh_wish (by omega) | exact sh_wor (by omega) | exact sh_bar (by omega) | exact sh_term (by omega) | exact sh_sheet (by omega) | exact sh_items (by omega) | exact sh_sums (by omega)) (by decide) (by decide) ?_
        refine wp_aload_n (pc := 6) dX12_sumFrom_6 (by first | rfl | assumption | (repeat first | assumption | rfl | refine aG_n ?_ rfl rfl)) ?_
        refine wp_getR (pc := 7) dX12_sumFrom_7 fl_12_119 (by first | rfl | assumption | exact sh_house (by omega) | exact sh_wish (by omega) | exact sh_wor (by omega) | exact sh_bar (by omega) | exact sh_term (by omega) | exact sh_sheet (by omega) | exact sh_items (by omega) | exact sh_sums (by omega)) rfl ?_
        refine wp_iload_n (pc := 10) dX12_sumFrom_10 (by first | rfl | assumption | (repeat first | assumption | rfl | refine aG_n ?_ rfl rfl)) ?_
        refine wp_iconst (pc := 11) (v := 1) dX12_sumFrom_11 (by decide) ?_
        refine wp_iadd (pc := 12) dX12_sumFrom_12 ?_
        refine wp_bipush (pc := 13) (v := 8) dX12_sumFrom_13 (by decide) ?_
        refine wp_irem (pc := 15) dX12_sumFrom_15 (by decide) ?_
        refine wp_ialdC (pc := 16) (j := 3) dX12_sumFrom_16 (by first | rfl | assumption | exact sh_house (by omega) | exact sh_wish (by omega) | exact sh_wor (by omega) | exact sh_bar (by omega) | exact sh_term (by omega) | exact sh_sheet (by omega) | exact sh_items (by omega) | exact sh_sums (by omega)) (by decide) (by decide) ?_
        refine wp_cS (pc := 17) dX12_sumFrom_17 lk_12_344 rfl rfl rfl (c_X12_sumOf (aK_i ?_))
        refine wp_istore_n (pc := 20) dX12_sumFrom_20 (by decide) ?_
        refine wp_iload_n (pc := 21) dX12_sumFrom_21 (by first | rfl | assumption | (repeat first | assumption | rfl | refine aG_n ?_ rfl rfl)) ?_
        refine wp_iconst (pc := 22) (v := 4) dX12_sumFrom_22 (by decide) ?_
        refine wp_icmp_ge (pc := 23) (tgt := 42) dX12_sumFrom_23 rfl (fun q => absurd q (by decide)) (fun _ => ?_)
        refine wp_iload_n (pc := 26) dX12_sumFrom_26 (by first | rfl | assumption | (repeat first | assumption | rfl | refine aG_n ?_ rfl rfl)) ?_
        refine wp_iconst (pc := 27) (v := 1) dX12_sumFrom_27 (by decide) ?_
        refine wp_icmp_ne (pc := 28) (tgt := 40) dX12_sumFrom_28 rfl (fun _ => ?_) (fun q => absurd q (by decide))
        refine wp_iload_n (pc := 40) dX12_sumFrom_40 (by first | rfl | assumption | (repeat first | assumption | rfl | refine aG_n ?_ rfl rfl)) ?_
        refine wp_iretK (pc := 41) dX12_sumFrom_41 rfl (by first | rfl | decide | assumption) ?_
        refine wp_ireturn (pc := 42) dX12_proof_42 rfl (by first | rfl | decide | assumption) ?_
        refine qEq ?_ (k' _ hI)
        rw [hR.2 5 (by omega) (by omega)]
        rw [← (hR.1 2 (by omega)).1, ← (hR.1 3 (by omega)).1]
      | 0, _, 2, _ =>
        refine wp_iload_n (pc := 0) dX11_proof_0 (by first | rfl | assumption | (repeat first | assumption | rfl | refine aG_n ?_ rfl rfl)) ?_
        refine wp_iconst (pc := 1) (v := 0) dX11_proof_1 (by decide) ?_
        refine wp_bipush (pc := 2) (v := 7) dX11_proof_2 (by decide) ?_
        refine wp_cS (pc := 4) dX11_proof_4 lk_11_112 rfl rfl rfl (c_X11_isWithin (fun _ => aK_i ?_) (fun q => absurd c1 q))
        refine wp_if_eq (pc := 7) (tgt := 19) dX11_proof_7 rfl (fun q => absurd q (by decide)) (fun _ => ?_)
        refine wp_iload_n (pc := 10) dX11_proof_10 (by first | rfl | assumption | (repeat first | assumption | rfl | refine aG_n ?_ rfl rfl)) ?_
        refine wp_iconst (pc := 11) (v := 0) dX11_proof_11 (by decide) ?_
        refine wp_iconst (pc := 12) (v := 2) dX11_proof_12 (by decide) ?_
        refine wp_cS (pc := 13) dX11_proof_13 lk_11_112 rfl rfl rfl (c_X11_isWithin (fun _ => aK_i ?_) (fun q => absurd c2 q))
        refine wp_if_ne (pc := 16) (tgt := 21) dX11_proof_16 rfl (fun _ => ?_) (fun q => absurd q (by decide))
        refine wp_aload_n (pc := 21) dX11_proof_21 (by first | rfl | assumption | (repeat first | assumption | rfl | refine aG_n ?_ rfl rfl)) ?_
        refine wp_getR (pc := 22) dX11_proof_22 fl_11_60 (by first | rfl | assumption | exact sh_house (by omega) | exact sh_wish (by omega) | exact sh_wor (by omega) | exact sh_bar (by omega) | exact sh_term (by omega) | exact sh_sheet (by omega) | exact sh_items (by omega) | exact sh_sums (by omega)) rfl ?_
        refine wp_iload_n (pc := 25) dX11_proof_25 (by first | rfl | assumption | (repeat first | assumption | rfl | refine aG_n ?_ rfl rfl)) ?_
        refine wp_iload_n (pc := 26) dX11_proof_26 (by first | rfl | assumption | (repeat first | assumption | rfl | refine aG_n ?_ rfl rfl)) ?_
        refine wp_cV (pc := 27) dX11_proof_27 lk_11_352 rfl (by decide) rfl (by first | rfl | assumption | exact sh_house (by omega) | exact sh_wish (by omega) | exact sh_wor (by omega) | exact sh_bar (by omega) | exact sh_term (by omega) | exact sh_sheet (by omega) | exact sh_items (by omega) | exact sh_sums (by omega)) rfl rfl ?_
        refine wp_aload_n (pc := 0) dX5_beside_0 (by first | rfl | assumption | (repeat first | assumption | rfl | refine aG_n ?_ rfl rfl)) ?_
        refine wp_getR (pc := 1) dX5_beside_1 fl_5_9 (by first | rfl | assumption | exact sh_house (by omega) | exact sh_wish (by omega) | exact sh_wor (by omega) | exact sh_bar (by omega) | exact sh_term (by omega) | exact sh_sheet (by omega) | exact sh_items (by omega) | exact sh_sums (by omega)) rfl ?_
        refine wp_bipush (pc := 4) (v := 8) dX5_beside_4 (by decide) ?_
        refine wp_iload_n (pc := 6) dX5_beside_6 (by first | rfl | assumption | (repeat first | assumption | rfl | refine aG_n ?_ rfl rfl)) ?_
        refine wp_iadd (pc := 7) dX5_beside_7 ?_
        refine wp_iload_n (pc := 8) dX5_beside_8 (by first | rfl | assumption | (repeat first | assumption | rfl | refine aG_n ?_ rfl rfl)) ?_
        refine wp_ishr (pc := 9) dX5_beside_9 ?_
        refine wp_iconst (pc := 10) (v := 1) dX5_beside_10 (by decide) ?_
        refine wp_ixor (pc := 11) dX5_beside_11 ?_
        refine wp_ialdC (pc := 12) (j := 3) dX5_beside_12 (by first | rfl | assumption | exact sh_house (by omega) | exact sh_wish (by omega) | exact sh_wor (by omega) | exact sh_bar (by omega) | exact sh_term (by omega) | exact sh_sheet (by omega) | exact sh_items (by omega) | exact sh_sums (by omega)) (by decide) (by decide) ?_
        refine wp_iretK (pc := 13) dX5_beside_13 rfl (by first | rfl | decide | assumption) ?_
        refine wp_ireturn (pc := 30) dX11_proof_30 rfl (by first | rfl | decide | assumption) ?_
        refine k _ _ (fun Q' k' => ?_)
        refine wp_iload_n (pc := 0) dX12_proof_0 (by first | rfl | assumption | (repeat first | assumption | rfl | refine aG_n ?_ rfl rfl)) ?_
        refine wp_i2l (pc := 1) dX12_proof_1 ?_
        refine wp_lconst (pc := 2) (v := 0) dX12_proof_2 (by decide) ?_
        refine wp_ldc2 (pc := 3) dX12_proof_3 cl_12_347 ?_
        refine wp_cS (pc := 6) dX12_proof_6 lk_12_133 rfl rfl rfl (c_X12_in (fun _ => aK_i ?_) (fun q => absurd (by rw [w_int]; exact c1) q))
        refine wp_if_eq (pc := 9) (tgt := 24) dX12_proof_9 rfl (fun q => absurd q (by decide)) (fun _ => ?_)
        refine wp_iload_n (pc := 12) dX12_proof_12 (by first | rfl | assumption | (repeat first | assumption | rfl | refine aG_n ?_ rfl rfl)) ?_
        refine wp_i2l (pc := 13) dX12_proof_13 ?_
        refine wp_lconst (pc := 14) (v := 0) dX12_proof_14 (by decide) ?_
        refine wp_ldc2 (pc := 15) dX12_proof_15 cl_12_212 ?_
        refine wp_cS (pc := 18) dX12_proof_18 lk_12_133 rfl rfl rfl (c_X12_in (fun _ => aK_i ?_) (fun q => absurd (by rw [w_int]; exact c2) q))
        refine wp_if_ne (pc := 21) (tgt := 26) dX12_proof_21 rfl (fun _ => ?_) (fun q => absurd q (by decide))
        refine wp_iconst (pc := 26) (v := 1) dX12_proof_26 (by decide) ?_
        refine wp_iload_n (pc := 27) dX12_proof_27 (by first | rfl | assumption | (repeat first | assumption | rfl | refine aG_n ?_ rfl rfl)) ?_
        refine wp_ishl (pc := 28) dX12_proof_28 ?_
        refine wp_istore_n (pc := 29) dX12_proof_29 (by decide) ?_
        refine wp_aload_n (pc := 30) dX12_proof_30 (by first | rfl | assumption | (repeat first | assumption | rfl | refine aG_n ?_ rfl rfl)) ?_
        refine wp_iload_n (pc := 31) dX12_proof_31 (by first | rfl | assumption | (repeat first | assumption | rfl | refine aG_n ?_ rfl rfl)) ?_
        refine wp_iload_n (pc := 32) dX12_proof_32 (by first | rfl | assumption | (repeat first | assumption | rfl | refine aG_n ?_ rfl rfl)) ?_
        refine wp_idiv (pc := 33) dX12_proof_33 (by decide) ?_
        refine wp_iconst (pc := 34) (v := 1) dX12_proof_34 (by decide) ?_
        refine wp_ixor (pc := 35) dX12_proof_35 ?_
        refine wp_iload_n (pc := 36) dX12_proof_36 (by first | rfl | assumption | (repeat first | assumption | rfl | refine aG_n ?_ rfl rfl)) ?_
        refine wp_imul (pc := 37) dX12_proof_37 ?_
        refine wp_iload_n (pc := 38) dX12_proof_38 (by first | rfl | assumption | (repeat first | assumption | rfl | refine aG_n ?_ rfl rfl)) ?_
        refine wp_cV (pc := 39) dX12_proof_39 lk_12_349 rfl (by decide) rfl (by first | rfl | assumption | exact sh_house (by omega) | exact sh_wish (by omega) | exact sh_wor (by omega) | exact sh_bar (by omega) | exact sh_term (by omega) | exact sh_sheet (by omega) | exact sh_items (by omega) | exact sh_sums (by omega)) rfl rfl ?_
        refine wp_aload_n (pc := 0) dX12_sumFrom_0 (by first | rfl | assumption | (repeat first | assumption | rfl | refine aG_n ?_ rfl rfl)) ?_
        refine wp_getR (pc := 1) dX12_sumFrom_1 fl_12_119 (by first | rfl | assumption | exact sh_house (by omega) | exact sh_wish (by omega) | exact sh_wor (by omega) | exact sh_bar (by omega) | exact sh_term (by omega) | exact sh_sheet (by omega) | exact sh_items (by omega) | exact sh_sums (by omega)) rfl ?_
        refine wp_iload_n (pc := 4) dX12_sumFrom_4 (by first | rfl | assumption | (repeat first | assumption | rfl | refine aG_n ?_ rfl rfl)) ?_
        refine wp_ialdC (pc := 5) (j := 4) dX12_sumFrom_5 (by first | rfl | assumption | exact sh_house (by omega) | exact sh_wish (by omega) | exact sh_wor (by omega) | exact sh_bar (by omega) | exact sh_term (by omega) | exact sh_sheet (by omega) | exact sh_items (by omega) | exact sh_sums (by omega)) (by decide) (by decide) ?_
        refine wp_aload_n (pc := 6) dX12_sumFrom_6 (by first | rfl | assumption | (repeat first | assumption | rfl | refine aG_n ?_ rfl rfl)) ?_
        refine wp_getR (pc := 7) dX12_sumFrom_7 fl_12_119 (by first | rfl | assumption | exact sh_house (by omega) | exact sh_wish (by omega) | exact sh_wor (by omega) | exact sh_bar (by omega) | exact sh_term (by omega) | exact sh_sheet (by omega) | exact sh_items (by omega) | exact sh_sums (by omega)) rfl ?_
        refine wp_iload_n (pc := 10) dX12_sumFrom_10 (by first | rfl | assumption | (repeat first | assumption | rfl | refine aG_n ?_ rfl rfl)) ?_
        refine wp_iconst (pc := 11) (v := 1) dX12_sumFrom_11 (by decide) ?_
        refine wp_iadd (pc := 12) dX12_sumFrom_12 ?_
        refine wp_bipush (pc := 13) (v := 8) dX12_sumFrom_13 (by decide) ?_
        refine wp_irem (pc := 15) dX12_sumFrom_15 (by decide) ?_
        refine wp_ialdC (pc := 16) (j := 5) dX12_sumFrom_16 (by first | rfl | assumption | exact sh_house (by omega) | exact sh_wish (by omega) | exact sh_wor (by omega) | exact sh_bar (by omega) | exact sh_term (by omega) | exact sh_sheet (by omega) | exact sh_items (by omega) | exact sh_sums (by omega)) (by decide) (by decide) ?_
        refine wp_cS (pc := 17) dX12_sumFrom_17 lk_12_344 rfl rfl rfl (c_X12_sumOf (aK_i ?_))
        refine wp_istore_n (pc := 20) dX12_sumFrom_20 (by decide) ?_
        refine wp_iload_n (pc := 21) dX12_sumFrom_21 (by first | rfl | assumption | (repeat first | assumption | rfl | refine aG_n ?_ rfl rfl)) ?_
        refine wp_iconst (pc := 22) (v := 4) dX12_sumFrom_22 (by decide) ?_
        refine wp_icmp_ge (pc := 23) (tgt := 42) dX12_sumFrom_23 rfl (fun _ => ?_) (fun q => absurd q (by decide))
        refine wp_iload_n (pc := 42) dX12_sumFrom_42 (by first | rfl | assumption | (repeat first | assumption | rfl | refine aG_n ?_ rfl rfl)) ?_
        refine wp_aload_n (pc := 43) dX12_sumFrom_43 (by first | rfl | assumption | (repeat first | assumption | rfl | refine aG_n ?_ rfl rfl)) ?_
        refine wp_getR (pc := 44) dX12_sumFrom_44 fl_12_119 (by first | rfl | assumption | exact sh_house (by omega) | exact sh_wish (by omega) | exact sh_wor (by omega) | exact sh_bar (by omega) | exact sh_term (by omega) | exact sh_sheet (by omega) | exact sh_items (by omega) | exact sh_sums (by omega)) rfl ?_
        refine wp_iload_n (pc := 47) dX12_sumFrom_47 (by first | rfl | assumption | (repeat first | assumption | rfl | refine aG_n ?_ rfl rfl)) ?_
        refine wp_iconst (pc := 48) (v := 2) dX12_sumFrom_48 (by decide) ?_
        refine wp_iadd (pc := 49) dX12_sumFrom_49 ?_
        refine wp_ialdC (pc := 50) (j := 6) dX12_sumFrom_50 (by first | rfl | assumption | exact sh_house (by omega) | exact sh_wish (by omega) | exact sh_wor (by omega) | exact sh_bar (by omega) | exact sh_term (by omega) | exact sh_sheet (by omega) | exact sh_items (by omega) | exact sh_sums (by omega)) (by decide) (by decide) ?_
        refine wp_aload_n (pc := 51) dX12_sumFrom_51 (by first | rfl | assumption | (repeat first | assumption | rfl | refine aG_n ?_ rfl rfl)) ?_
        refine wp_getR (pc := 52) dX12_sumFrom_52 fl_12_119 (by first | rfl | assumption | exact sh_house (by omega) | exact sh_wish (by omega) | exact sh_wor (by omega) | exact sh_bar (by omega) | exact sh_term (by omega) | exact sh_sheet (by omega) | exact sh_items (by omega) | exact sh_sums (by omega)) rfl ?_
        refine wp_iload_n (pc := 55) dX12_sumFrom_55 (by first | rfl | assumption | (repeat first | assumption | rfl | refine aG_n ?_ rfl rfl)) ?_
        refine wp_iconst (pc := 56) (v := 3) dX12_sumFrom_56 (by decide) ?_
        refine wp_iadd (pc := 57) dX12_sumFrom_57 ?_
        refine wp_ialdC (pc := 58) (j := 7) dX12_sumFrom_58 (by first | rfl | assumption | exact sh_house (by omega) | exact sh_wish (by omega) | exact sh_wor (by omega) | exact sh_bar (by omega) | exact sh_term (by omega) | exact sh_sheet (by omega) | exact sh_items (by omega) | exact sh_sums (by omega)) (by decide) (by decide) ?_
        refine wp_cS (pc := 59) dX12_sumFrom_59 lk_12_344 rfl rfl rfl (c_X12_sumOf (aK_i ?_))
        refine wp_cS (pc := 62) dX12_sumFrom_62 lk_12_344 rfl rfl rfl (c_X12_sumOf (aK_i ?_))
        refine wp_istore (pc := 65) dX12_sumFrom_65 (by decide) ?_
        refine wp_iload_n (pc := 67) dX12_sumFrom_67 (by first | rfl | assumption | (repeat first | assumption | rfl | refine aG_n ?_ rfl rfl)) ?_
        refine wp_iconst (pc := 68) (v := 4) dX12_sumFrom_68 (by decide) ?_
        refine wp_icmp_ne (pc := 69) (tgt := 75) dX12_sumFrom_69 rfl (fun q => absurd q (by decide)) (fun _ => ?_)
        refine wp_iload (pc := 72) dX12_sumFrom_72 (by first | rfl | assumption | (repeat first | assumption | rfl | refine aG_n ?_ rfl rfl)) ?_
        refine wp_iretK (pc := 74) dX12_sumFrom_74 rfl (by first | rfl | decide | assumption) ?_
        refine wp_ireturn (pc := 42) dX12_proof_42 rfl (by first | rfl | decide | assumption) ?_
        refine qEq ?_ (k' _ hI)
        rw [hR.2 3 (by omega) (by omega), hR.2 (2 * 3) (by omega) (by omega), hR.2 (2 * 3 + 1) (by omega) (by omega)]
        rw [← (hR.1 4 (by omega)).1, ← (hR.1 5 (by omega)).1, ← (hR.1 6 (by omega)).1, ← (hR.1 7 (by omega)).1]
      | 1, _, 0, _ =>
        refine wp_iload_n (pc := 0) dX11_proof_0 (by first | rfl | assumption | (repeat first | assumption | rfl | refine aG_n ?_ rfl rfl)) ?_
        refine wp_iconst (pc := 1) (v := 0) dX11_proof_1 (by decide) ?_
        refine wp_bipush (pc := 2) (v := 7) dX11_proof_2 (by decide) ?_
        refine wp_cS (pc := 4) dX11_proof_4 lk_11_112 rfl rfl rfl (c_X11_isWithin (fun _ => aK_i ?_) (fun q => absurd c1 q))
        refine wp_if_eq (pc := 7) (tgt := 19) dX11_proof_7 rfl (fun q => absurd q (by decide)) (fun _ => ?_)
        refine wp_iload_n (pc := 10) dX11_proof_10 (by first | rfl | assumption | (repeat first | assumption | rfl | refine aG_n ?_ rfl rfl)) ?_
        refine wp_iconst (pc := 11) (v := 0) dX11_proof_11 (by decide) ?_
        refine wp_iconst (pc := 12) (v := 2) dX11_proof_12 (by decide) ?_
        refine wp_cS (pc := 13) dX11_proof_13 lk_11_112 rfl rfl rfl (c_X11_isWithin (fun _ => aK_i ?_) (fun q => absurd c2 q))
        refine wp_if_ne (pc := 16) (tgt := 21) dX11_proof_16 rfl (fun _ => ?_) (fun q => absurd q (by decide))
        refine wp_aload_n (pc := 21) dX11_proof_21 (by first | rfl | assumption | (repeat first | assumption | rfl | refine aG_n ?_ rfl rfl)) ?_
        refine wp_getR (pc := 22) dX11_proof_22 fl_11_60 (by first | rfl | assumption | exact sh_house (by omega) | exact sh_wish (by omega) | exact sh_wor (by omega) | exact sh_bar (by omega) | exact sh_term (by omega) | exact sh_sheet (by omega) | exact sh_items (by omega) | exact sh_sums (by omega)) rfl ?_
        refine wp_iload_n (pc := 25) dX11_proof_25 (by first | rfl | assumption | (repeat first | assumption | rfl | refine aG_n ?_ rfl rfl)) ?_
        refine wp_iload_n (pc := 26) dX11_proof_26 (by first | rfl | assumption | (repeat first | assumption | rfl | refine aG_n ?_ rfl rfl)) ?_
        refine wp_cV (pc := 27) dX11_proof_27 lk_11_352 rfl (by decide) rfl (by first | rfl | assumption | exact sh_house (by omega) | exact sh_wish (by omega) | exact sh_wor (by omega) | exact sh_bar (by omega) | exact sh_term (by omega) | exact sh_sheet (by omega) | exact sh_items (by omega) | exact sh_sums (by omega)) rfl rfl ?_
        refine wp_aload_n (pc := 0) dX5_beside_0 (by first | rfl | assumption | (repeat first | assumption | rfl | refine aG_n ?_ rfl rfl)) ?_
        refine wp_getR (pc := 1) dX5_beside_1 fl_5_9 (by first | rfl | assumption | exact sh_house (by omega) | exact sh_wish (by omega) | exact sh_wor (by omega) | exact sh_bar (by omega) | exact sh_term (by omega) | exact sh_sheet (by omega) | exact sh_items (by omega) | exact sh_sums (by omega)) rfl ?_
        refine wp_bipush (pc := 4) (v := 8) dX5_beside_4 (by decide) ?_
        refine wp_iload_n (pc := 6) dX5_beside_6 (by first | rfl | assumption | (repeat first | assumption | rfl | refine aG_n ?_ rfl rfl)) ?_
        refine wp_iadd (pc := 7) dX5_beside_7 ?_
        refine wp_iload_n (pc := 8) dX5_beside_8 (by first | rfl | assumption | (repeat first | assumption | rfl | refine aG_n ?_ rfl rfl)) ?_
        refine wp_ishr (pc := 9) dX5_beside_9 ?_
        refine wp_iconst (pc := 10) (v := 1) dX5_beside_10 (by decide) ?_
        refine wp_ixor (pc := 11) dX5_beside_11 ?_
        refine wp_ialdC (pc := 12) (j := 8) dX5_beside_12 (by first | rfl | assumption | exact sh_house (by omega) | exact sh_wish (by omega) | exact sh_wor (by omega) | exact sh_bar (by omega) | exact sh_term (by omega) | exact sh_sheet (by omega) | exact sh_items (by omega) | exact sh_sums (by omega)) (by decide) (by decide) ?_
        refine wp_iretK (pc := 13) dX5_beside_13 rfl (by first | rfl | decide | assumption) ?_
        refine wp_ireturn (pc := 30) dX11_proof_30 rfl (by first | rfl | decide | assumption) ?_
        refine k _ _ (fun Q' k' => ?_)
        refine wp_iload_n (pc := 0) dX12_proof_0 (by first | rfl | assumption | (repeat first | assumption | rfl | refine aG_n ?_ rfl rfl)) ?_
        refine wp_i2l (pc := 1) dX12_proof_1 ?_
        refine wp_lconst (pc := 2) (v := 0) dX12_proof_2 (by decide) ?_
        refine wp_ldc2 (pc := 3) dX12_proof_3 cl_12_347 ?_
        refine wp_cS (pc := 6) dX12_proof_6 lk_12_133 rfl rfl rfl (c_X12_in (fun _ => aK_i ?_) (fun q => absurd (by rw [w_int]; exact c1) q))
        refine wp_if_eq (pc := 9) (tgt := 24) dX12_proof_9 rfl (fun q => absurd q (by decide)) (fun _ => ?_)
        refine wp_iload_n (pc := 12) dX12_proof_12 (by first | rfl | assumption | (repeat first | assumption | rfl | refine aG_n ?_ rfl rfl)) ?_
        refine wp_i2l (pc := 13) dX12_proof_13 ?_
        refine wp_lconst (pc := 14) (v := 0) dX12_proof_14 (by decide) ?_
        refine wp_ldc2 (pc := 15) dX12_proof_15 cl_12_212 ?_
        refine wp_cS (pc := 18) dX12_proof_18 lk_12_133 rfl rfl rfl (c_X12_in (fun _ => aK_i ?_) (fun q => absurd (by rw [w_int]; exact c2) q))
        refine wp_if_ne (pc := 21) (tgt := 26) dX12_proof_21 rfl (fun _ => ?_) (fun q => absurd q (by decide))
        refine wp_iconst (pc := 26) (v := 1) dX12_proof_26 (by decide) ?_
        refine wp_iload_n (pc := 27) dX12_proof_27 (by first | rfl | assumption | (repeat first | assumption | rfl | refine aG_n ?_ rfl rfl)) ?_
        refine wp_ishl (pc := 28) dX12_proof_28 ?_
        refine wp_istore_n (pc := 29) dX12_proof_29 (by decide) ?_
        refine wp_aload_n (pc := 30) dX12_proof_30 (by first | rfl | assumption | (repeat first | assumption | rfl | refine aG_n ?_ rfl rfl)) ?_
        refine wp_iload_n (pc := 31) dX12_proof_31 (by first | rfl | assumption | (repeat first | assumption | rfl | refine aG_n ?_ rfl rfl)) ?_
        refine wp_iload_n (pc := 32) dX12_proof_32 (by first | rfl | assumption | (repeat first | assumption | rfl | refine aG_n ?_ rfl rfl)) ?_
        refine wp_idiv (pc := 33) dX12_proof_33 (by decide) ?_
        refine wp_iconst (pc := 34) (v := 1) dX12_proof_34 (by decide) ?_
        refine wp_ixor (pc := 35) dX12_proof_35 ?_
        refine wp_iload_n (pc := 36) dX12_proof_36 (by first | rfl | assumption | (repeat first | assumption | rfl | refine aG_n ?_ rfl rfl)) ?_
        refine wp_imul (pc := 37) dX12_proof_37 ?_
        refine wp_iload_n (pc := 38) dX12_proof_38 (by first | rfl | assumption | (repeat first | assumption | rfl | refine aG_n ?_ rfl rfl)) ?_
        refine wp_cV (pc := 39) dX12_proof_39 lk_12_349 rfl (by decide) rfl (by first | rfl | assumption | exact sh_house (by omega) | exact sh_wish (by omega) | exact sh_wor (by omega) | exact sh_bar (by omega) | exact sh_term (by omega) | exact sh_sheet (by omega) | exact sh_items (by omega) | exact sh_sums (by omega)) rfl rfl ?_
        refine wp_aload_n (pc := 0) dX12_sumFrom_0 (by first | rfl | assumption | (repeat first | assumption | rfl | refine aG_n ?_ rfl rfl)) ?_
        refine wp_getR (pc := 1) dX12_sumFrom_1 fl_12_119 (by first | rfl | assumption | exact sh_house (by omega) | exact sh_wish (by omega) | exact sh_wor (by omega) | exact sh_bar (by omega) | exact sh_term (by omega) | exact sh_sheet (by omega) | exact sh_items (by omega) | exact sh_sums (by omega)) rfl ?_
        refine wp_iload_n (pc := 4) dX12_sumFrom_4 (by first | rfl | assumption | (repeat first | assumption | rfl | refine aG_n ?_ rfl rfl)) ?_
        refine wp_ialdC (pc := 5) (j := 0) dX12_sumFrom_5 (by first | rfl | assumption | exact sh_house (by omega) | exact sh_wish (by omega) | exact sh_wor (by omega) | exact sh_bar (by omega) | exact sh_term (by omega) | exact sh_sheet (by omega) | exact sh_items (by omega) | exact sh_sums (by omega)) (by decide) (by decide) ?_
        refine wp_aload_n (pc := 6) dX12_sumFrom_6 (by first | rfl | assumption | (repeat first | assumption | rfl | refine aG_n ?_ rfl rfl)) ?_
        refine wp_getR (pc := 7) dX12_sumFrom_7 fl_12_119 (by first | rfl | assumption | exact sh_house (by omega) | exact sh_wish (by omega) | exact sh_wor (by omega) | exact sh_bar (by omega) | exact sh_term (by omega) | exact sh_sheet (by omega) | exact sh_items (by omega) | exact sh_sums (by omega)) rfl ?_
        refine wp_iload_n (pc := 10) dX12_sumFrom_10 (by first | rfl | assumption | (repeat first | assumption | rfl | refine aG_n ?_ rfl rfl)) ?_
        refine wp_iconst (pc := 11) (v := 1) dX12_sumFrom_11 (by decide) ?_
        refine wp_iadd (pc := 12) dX12_sumFrom_12 ?_
        refine wp_bipush (pc := 13) (v := 8) dX12_sumFrom_13 (by decide) ?_
        refine wp_irem (pc := 15) dX12_sumFrom_15 (by decide) ?_
        refine wp_ialdC (pc := 16) (j := 1) dX12_sumFrom_16 (by first | rfl | assumption | exact sh_house (by omega) | exact sh_wish (by omega) | exact sh_wor (by omega) | exact sh_bar (by omega) | exact sh_term (by omega) | exact sh_sheet (by omega) | exact sh_items (by omega) | exact sh_sums (by omega)) (by decide) (by decide) ?_
        refine wp_cS (pc := 17) dX12_sumFrom_17 lk_12_344 rfl rfl rfl (c_X12_sumOf (aK_i ?_))
        refine wp_istore_n (pc := 20) dX12_sumFrom_20 (by decide) ?_
        refine wp_iload_n (pc := 21) dX12_sumFrom_21 (by first | rfl | assumption | (repeat first | assumption | rfl | refine aG_n ?_ rfl rfl)) ?_
        refine wp_iconst (pc := 22) (v := 4) dX12_sumFrom_22 (by decide) ?_
        refine wp_icmp_ge (pc := 23) (tgt := 42) dX12_sumFrom_23 rfl (fun q => absurd q (by decide)) (fun _ => ?_)
        refine wp_iload_n (pc := 26) dX12_sumFrom_26 (by first | rfl | assumption | (repeat first | assumption | rfl | refine aG_n ?_ rfl rfl)) ?_
        refine wp_iconst (pc := 27) (v := 1) dX12_sumFrom_27 (by decide) ?_
        refine wp_icmp_ne (pc := 28) (tgt := 40) dX12_sumFrom_28 rfl (fun q => absurd q (by decide)) (fun _ => ?_)
        refine wp_aload_n (pc := 31) dX12_sumFrom_31 (by first | rfl | assumption | (repeat first | assumption | rfl | refine aG_n ?_ rfl rfl)) ?_
        refine wp_getR (pc := 32) dX12_sumFrom_32 fl_12_119 (by first | rfl | assumption | exact sh_house (by omega) | exact sh_wish (by omega) | exact sh_wor (by omega) | exact sh_bar (by omega) | exact sh_term (by omega) | exact sh_sheet (by omega) | exact sh_items (by omega) | exact sh_sums (by omega)) rfl ?_
        refine wp_iload_n (pc := 35) dX12_sumFrom_35 (by first | rfl | assumption | (repeat first | assumption | rfl | refine aG_n ?_ rfl rfl)) ?_
        refine wp_ialdC (pc := 36) (j := 0) dX12_sumFrom_36 (by first | rfl | assumption | exact sh_house (by omega) | exact sh_wish (by omega) | exact sh_wor (by omega) | exact sh_bar (by omega) | exact sh_term (by omega) | exact sh_sheet (by omega) | exact sh_items (by omega) | exact sh_sums (by omega)) (by decide) (by decide) ?_
        refine wp_goto (pc := 37) (tgt := 41) dX12_sumFrom_37 rfl ?_
        refine wp_iretK (pc := 41) dX12_sumFrom_41 rfl (by first | rfl | decide | assumption) ?_
        refine wp_ireturn (pc := 42) dX12_proof_42 rfl (by first | rfl | decide | assumption) ?_
        refine qEq ?_ (k' _ hI)
        exact (hR.1 0 (by omega)).1.symm
      | 1, _, 1, _ =>
        refine wp_iload_n (pc := 0) dX11_proof_0 (by first | rfl | assumption | (repeat first | assumption | rfl | refine aG_n ?_ rfl rfl)) ?_
        refine wp_iconst (pc := 1) (v := 0) dX11_proof_1 (by decide) ?_
        refine wp_bipush (pc := 2) (v := 7) dX11_proof_2 (by decide) ?_
        refine wp_cS (pc := 4) dX11_proof_4 lk_11_112 rfl rfl rfl (c_X11_isWithin (fun _ => aK_i ?_) (fun q => absurd c1 q))
        refine wp_if_eq (pc := 7) (tgt := 19) dX11_proof_7 rfl (fun q => absurd q (by decide)) (fun _ => ?_)
        refine wp_iload_n (pc := 10) dX11_proof_10 (by first | rfl | assumption | (repeat first | assumption | rfl | refine aG_n ?_ rfl rfl)) ?_
        refine wp_iconst (pc := 11) (v := 0) dX11_proof_11 (by decide) ?_
        refine wp_iconst (pc := 12) (v := 2) dX11_proof_12 (by decide) ?_
        refine wp_cS (pc := 13) dX11_proof_13 lk_11_112 rfl rfl rfl (c_X11_isWithin (fun _ => aK_i ?_) (fun q => absurd c2 q))
        refine wp_if_ne (pc := 16) (tgt := 21) dX11_proof_16 rfl (fun _ => ?_) (fun q => absurd q (by decide))
        refine wp_aload_n (pc := 21) dX11_proof_21 (by first | rfl | assumption | (repeat first | assumption | rfl | refine aG_n ?_ rfl rfl)) ?_
        refine wp_getR (pc := 22) dX11_proof_22 fl_11_60 (by first | rfl | assumption | exact sh_house (by omega) | exact sh_wish (by omega) | exact sh_wor (by omega) | exact sh_bar (by omega) | exact sh_term (by omega) | exact sh_sheet (by omega) | exact sh_items (by omega) | exact sh_sums (by omega)) rfl ?_
        refine wp_iload_n (pc := 25) dX11_proof_25 (by first | rfl | assumption | (repeat first | assumption | rfl | refine aG_n ?_ rfl rfl)) ?_
        refine wp_iload_n (pc := 26) dX11_proof_26 (by first | rfl | assumption | (repeat first | assumption | rfl | refine aG_n ?_ rfl rfl)) ?_
        refine wp_cV (pc := 27) dX11_proof_27 lk_11_352 rfl (by decide) rfl (by first | rfl | assumption | exact sh_house (by omega) | exact sh_wish (by omega) | exact sh_wor (by omega) | exact sh_bar (by omega) | exact sh_term (by omega) | exact sh_sheet (by omega) | exact sh_items (by omega) | exact sh_sums (by omega)) rfl rfl ?_
        refine wp_aload_n (pc := 0) dX5_beside_0 (by first | rfl | assumption | (repeat first | assumption | rfl | refine aG_n ?_ rfl rfl)) ?_
        refine wp_getR (pc := 1) dX5_beside_1 fl_5_9 (by first | rfl | assumption | exact sh_house (by omega) | exact sh_wish (by omega) | exact sh_wor (by omega) | exact sh_bar (by omega) | exact sh_term (by omega) | exact sh_sheet (by omega) | exact sh_items (by omega) | exact sh_sums (by omega)) rfl ?_
        refine wp_bipush (pc := 4) (v := 8) dX5_beside_4 (by decide) ?_
        refine wp_iload_n (pc := 6) dX5_beside_6 (by first | rfl | assumption | (repeat first | assumption | rfl | refine aG_n ?_ rfl rfl)) ?_
        refine wp_iadd (pc := 7) dX5_beside_7 ?_
        refine wp_iload_n (pc := 8) dX5_beside_8 (by first | rfl | assumption | (repeat first | assumption | rfl | refine aG_n ?_ rfl rfl)) ?_
        refine wp_ishr (pc := 9) dX5_beside_9 ?_
        refine wp_iconst (pc := 10) (v := 1) dX5_beside_10 (by decide) ?_
        refine wp_ixor (pc := 11) dX5_beside_11 ?_
        refine wp_ialdC (pc := 12) (j := 5) dX5_beside_12 (by first | rfl | assumption | exact sh_house (by omega) | exact sh_wish (by omega) | exact sh_wor (by omega) | exact sh_bar (by omega) | exact sh_term (by omega) | exact sh_sheet (by omega) | exact sh_items (by omega) | exact sh_sums (by omega)) (by decide) (by decide) ?_
        refine wp_iretK (pc := 13) dX5_beside_13 rfl (by first | rfl | decide | assumption) ?_
        refine wp_ireturn (pc := 30) dX11_proof_30 rfl (by first | rfl | decide | assumption) ?_
        refine k _ _ (fun Q' k' => ?_)
        refine wp_iload_n (pc := 0) dX12_proof_0 (by first | rfl | assumption | (repeat first | assumption | rfl | refine aG_n ?_ rfl rfl)) ?_
        refine wp_i2l (pc := 1) dX12_proof_1 ?_
        refine wp_lconst (pc := 2) (v := 0) dX12_proof_2 (by decide) ?_
        refine wp_ldc2 (pc := 3) dX12_proof_3 cl_12_347 ?_
        refine wp_cS (pc := 6) dX12_proof_6 lk_12_133 rfl rfl rfl (c_X12_in (fun _ => aK_i ?_) (fun q => absurd (by rw [w_int]; exact c1) q))
        refine wp_if_eq (pc := 9) (tgt := 24) dX12_proof_9 rfl (fun q => absurd q (by decide)) (fun _ => ?_)
        refine wp_iload_n (pc := 12) dX12_proof_12 (by first | rfl | assumption | (repeat first | assumption | rfl | refine aG_n ?_ rfl rfl)) ?_
        refine wp_i2l (pc := 13) dX12_proof_13 ?_
        refine wp_lconst (pc := 14) (v := 0) dX12_proof_14 (by decide) ?_
        refine wp_ldc2 (pc := 15) dX12_proof_15 cl_12_212 ?_
        refine wp_cS (pc := 18) dX12_proof_18 lk_12_133 rfl rfl rfl (c_X12_in (fun _ => aK_i ?_) (fun q => absurd (by rw [w_int]; exact c2) q))
        refine wp_if_ne (pc := 21) (tgt := 26) dX12_proof_21 rfl (fun _ => ?_) (fun q => absurd q (by decide))
        refine wp_iconst (pc := 26) (v := 1) dX12_proof_26 (by decide) ?_
        refine wp_iload_n (pc := 27) dX12_proof_27 (by first | rfl | assumption | (repeat first | assumption | rfl | refine aG_n ?_ rfl rfl)) ?_
        refine wp_ishl (pc := 28) dX12_proof_28 ?_
        refine wp_istore_n (pc := 29) dX12_proof_29 (by decide) ?_
        refine wp_aload_n (pc := 30) dX12_proof_30 (by first | rfl | assumption | (repeat first | assumption | rfl | refine aG_n ?_ rfl rfl)) ?_
        refine wp_iload_n (pc := 31) dX12_proof_31 (by first | rfl | assumption | (repeat first | assumption | rfl | refine aG_n ?_ rfl rfl)) ?_
        refine wp_iload_n (pc := 32) dX12_proof_32 (by first | rfl | assumption | (repeat first | assumption | rfl | refine aG_n ?_ rfl rfl)) ?_
        refine wp_idiv (pc := 33) dX12_proof_33 (by decide) ?_
        refine wp_iconst (pc := 34) (v := 1) dX12_proof_34 (by decide) ?_
        refine wp_ixor (pc := 35) dX12_proof_35 ?_
        refine wp_iload_n (pc := 36) dX12_proof_36 (by first | rfl | assumption | (repeat first | assumption | rfl | refine aG_n ?_ rfl rfl)) ?_
        refine wp_imul (pc := 37) dX12_proof_37 ?_
        refine wp_iload_n (pc := 38) dX12_proof_38 (by first | rfl | assumption | (repeat first | assumption | rfl | refine aG_n ?_ rfl rfl)) ?_
        refine wp_cV (pc := 39) dX12_proof_39 lk_12_349 rfl (by decide) rfl (by first | rfl | assumption | exact sh_house (by omega) | exact sh_wish (by omega) | exact sh_wor (by omega) | exact sh_bar (by omega) | exact sh_term (by omega) | exact sh_sheet (by omega) | exact sh_items (by omega) | exact sh_sums (by omega)) rfl rfl ?_
        refine wp_aload_n (pc := 0) dX12_sumFrom_0 (by first | rfl | assumption | (repeat first | assumption | rfl | refine aG_n ?_ rfl rfl)) ?_
        refine wp_getR (pc := 1) dX12_sumFrom_1 fl_12_119 (by first | rfl | assumption | exact sh_house (by omega) | exact sh_wish (by omega) | exact sh_wor (by omega) | exact sh_bar (by omega) | exact sh_term (by omega) | exact sh_sheet (by omega) | exact sh_items (by omega) | exact sh_sums (by omega)) rfl ?_
        refine wp_iload_n (pc := 4) dX12_sumFrom_4 (by first | rfl | assumption | (repeat first | assumption | rfl | refine aG_n ?_ rfl rfl)) ?_
        refine wp_ialdC (pc := 5) (j := 2) dX12_sumFrom_5 (by first | rfl | assumption | exact sh_house (by omega) | exact sh_wish (by omega) | exact sh_wor (by omega) | exact sh_bar (by omega) | exact sh_term (by omega) | exact sh_sheet (by omega) | exact sh_items (by omega) | exact sh_sums (by omega)) (by decide) (by decide) ?_
        refine wp_aload_n (pc := 6) dX12_sumFrom_6 (by first | rfl | assumption | (repeat first | assumption | rfl | refine aG_n ?_ rfl rfl)) ?_
        refine wp_getR (pc := 7) dX12_sumFrom_7 fl_12_119 (by first | rfl | assumption | exact sh_house (by omega) | exact sh_wish (by omega) | exact sh_wor (by omega) | exact sh_bar (by omega) | exact sh_term (by omega) | exact sh_sheet (by omega) | exact sh_items (by omega) | exact sh_sums (by omega)) rfl ?_
        refine wp_iload_n (pc := 10) dX12_sumFrom_10 (by first | rfl | assumption | (repeat first | assumption | rfl | refine aG_n ?_ rfl rfl)) ?_
        refine wp_iconst (pc := 11) (v := 1) dX12_sumFrom_11 (by decide) ?_
        refine wp_iadd (pc := 12) dX12_sumFrom_12 ?_
        refine wp_bipush (pc := 13) (v := 8) dX12_sumFrom_13 (by decide) ?_
        refine wp_irem (pc := 15) dX12_sumFrom_15 (by decide) ?_
        refine wp_ialdC (pc := 16) (j := 3) dX12_sumFrom_16 (by first | rfl | assumption | exact sh_house (by omega) | exact sh_wish (by omega) | exact sh_wor (by omega) | exact sh_bar (by omega) | exact sh_term (by omega) | exact sh_sheet (by omega) | exact sh_items (by omega) | exact sh_sums (by omega)) (by decide) (by decide) ?_
        refine wp_cS (pc := 17) dX12_sumFrom_17 lk_12_344 rfl rfl rfl (c_X12_sumOf (aK_i ?_))
        refine wp_istore_n (pc := 20) dX12_sumFrom_20 (by decide) ?_
        refine wp_iload_n (pc := 21) dX12_sumFrom_21 (by first | rfl | assumption | (repeat first | assumption | rfl | refine aG_n ?_ rfl rfl)) ?_
        refine wp_iconst (pc := 22) (v := 4) dX12_sumFrom_22 (by decide) ?_
        refine wp_icmp_ge (pc := 23) (tgt := 42) dX12_sumFrom_23 rfl (fun q => absurd q (by decide)) (fun _ => ?_)
        refine wp_iload_n (pc := 26) dX12_sumFrom_26 (by first | rfl | assumption | (repeat first | assumption | rfl | refine aG_n ?_ rfl rfl)) ?_
        refine wp_iconst (pc := 27) (v := 1) dX12_sumFrom_27 (by decide) ?_
        refine wp_icmp_ne (pc := 28) (tgt := 40) dX12_sumFrom_28 rfl (fun _ => ?_) (fun q => absurd q (by decide))
        refine wp_iload_n (pc := 40) dX12_sumFrom_40 (by first | rfl | assumption | (repeat first | assumption | rfl | refine aG_n ?_ rfl rfl)) ?_
        refine wp_iretK (pc := 41) dX12_sumFrom_41 rfl (by first | rfl | decide | assumption) ?_
        refine wp_ireturn (pc := 42) dX12_proof_42 rfl (by first | rfl | decide | assumption) ?_
        refine qEq ?_ (k' _ hI)
        rw [hR.2 5 (by omega) (by omega)]
        rw [← (hR.1 2 (by omega)).1, ← (hR.1 3 (by omega)).1]
      | 1, _, 2, _ =>
        refine wp_iload_n (pc := 0) dX11_proof_0 (by first | rfl | assumption | (repeat first | assumption | rfl | refine aG_n ?_ rfl rfl)) ?_
        refine wp_iconst (pc := 1) (v := 0) dX11_proof_1 (by decide) ?_
        refine wp_bipush (pc := 2) (v := 7) dX11_proof_2 (by decide) ?_
        refine wp_cS (pc := 4) dX11_proof_4 lk_11_112 rfl rfl rfl (c_X11_isWithin (fun _ => aK_i ?_) (fun q => absurd c1 q))
        refine wp_if_eq (pc := 7) (tgt := 19) dX11_proof_7 rfl (fun q => absurd q (by decide)) (fun _ => ?_)
        refine wp_iload_n (pc := 10) dX11_proof_10 (by first | rfl | assumption | (repeat first | assumption | rfl | refine aG_n ?_ rfl rfl)) ?_
        refine wp_iconst (pc := 11) (v := 0) dX11_proof_11 (by decide) ?_
        refine wp_iconst (pc := 12) (v := 2) dX11_proof_12 (by decide) ?_
        refine wp_cS (pc := 13) dX11_proof_13 lk_11_112 rfl rfl rfl (c_X11_isWithin (fun _ => aK_i ?_) (fun q => absurd c2 q))
        refine wp_if_ne (pc := 16) (tgt := 21) dX11_proof_16 rfl (fun _ => ?_) (fun q => absurd q (by decide))
        refine wp_aload_n (pc := 21) dX11_proof_21 (by first | rfl | assumption | (repeat first | assumption | rfl | refine aG_n ?_ rfl rfl)) ?_
        refine wp_getR (pc := 22) dX11_proof_22 fl_11_60 (by first | rfl | assumption | exact sh_house (by omega) | exact sh_wish (by omega) | exact sh_wor (by omega) | exact sh_bar (by omega) | exact sh_term (by omega) | exact sh_sheet (by omega) | exact sh_items (by omega) | exact sh_sums (by omega)) rfl ?_
        refine wp_iload_n (pc := 25) dX11_proof_25 (by first | rfl | assumption | (repeat first | assumption | rfl | refine aG_n ?_ rfl rfl)) ?_
        refine wp_iload_n (pc := 26) dX11_proof_26 (by first | rfl | assumption | (repeat first | assumption | rfl | refine aG_n ?_ rfl rfl)) ?_
        refine wp_cV (pc := 27) dX11_proof_27 lk_11_352 rfl (by decide) rfl (by first | rfl | assumption | exact sh_house (by omega) | exact sh_wish (by omega) | exact sh_wor (by omega) | exact sh_bar (by omega) | exact sh_term (by omega) | exact sh_sheet (by omega) | exact sh_items (by omega) | exact sh_sums (by omega)) rfl rfl ?_
        refine wp_aload_n (pc := 0) dX5_beside_0 (by first | rfl | assumption | (repeat first | assumption | rfl | refine aG_n ?_ rfl rfl)) ?_
        refine wp_getR (pc := 1) dX5_beside_1 fl_5_9 (by first | rfl | assumption | exact sh_house (by omega) | exact sh_wish (by omega) | exact sh_wor (by omega) | exact sh_bar (by omega) | exact sh_term (by omega) | exact sh_sheet (by omega) | exact sh_items (by omega) | exact sh_sums (by omega)) rfl ?_
        refine wp_bipush (pc := 4) (v := 8) dX5_beside_4 (by decide) ?_
        refine wp_iload_n (pc := 6) dX5_beside_6 (by first | rfl | assumption | (repeat first | assumption | rfl | refine aG_n ?_ rfl rfl)) ?_
        refine wp_iadd (pc := 7) dX5_beside_7 ?_
        refine wp_iload_n (pc := 8) dX5_beside_8 (by first | rfl | assumption | (repeat first | assumption | rfl | refine aG_n ?_ rfl rfl)) ?_
        refine wp_ishr (pc := 9) dX5_beside_9 ?_
        refine wp_iconst (pc := 10) (v := 1) dX5_beside_10 (by decide) ?_
        refine wp_ixor (pc := 11) dX5_beside_11 ?_
        refine wp_ialdC (pc := 12) (j := 3) dX5_beside_12 (by first | rfl | assumption | exact sh_house (by omega) | exact sh_wish (by omega) | exact sh_wor (by omega) | exact sh_bar (by omega) | exact sh_term (by omega) | exact sh_sheet (by omega) | exact sh_items (by omega) | exact sh_sums (by omega)) (by decide) (by decide) ?_
        refine wp_iretK (pc := 13) dX5_beside_13 rfl (by first | rfl | decide | assumption) ?_
        refine wp_ireturn (pc := 30) dX11_proof_30 rfl (by first | rfl | decide | assumption) ?_
        refine k _ _ (fun Q' k' => ?_)
        refine wp_iload_n (pc := 0) dX12_proof_0 (by first | rfl | assumption | (repeat first | assumption | rfl | refine aG_n ?_ rfl rfl)) ?_
        refine wp_i2l (pc := 1) dX12_proof_1 ?_
        refine wp_lconst (pc := 2) (v := 0) dX12_proof_2 (by decide) ?_
        refine wp_ldc2 (pc := 3) dX12_proof_3 cl_12_347 ?_
        refine wp_cS (pc := 6) dX12_proof_6 lk_12_133 rfl rfl rfl (c_X12_in (fun _ => aK_i ?_) (fun q => absurd (by rw [w_int]; exact c1) q))
        refine wp_if_eq (pc := 9) (tgt := 24) dX12_proof_9 rfl (fun q => absurd q (by decide)) (fun _ => ?_)
        refine wp_iload_n (pc := 12) dX12_proof_12 (by first | rfl | assumption | (repeat first | assumption | rfl | refine aG_n ?_ rfl rfl)) ?_
        refine wp_i2l (pc := 13) dX12_proof_13 ?_
        refine wp_lconst (pc := 14) (v := 0) dX12_proof_14 (by decide) ?_
        refine wp_ldc2 (pc := 15) dX12_proof_15 cl_12_212 ?_
        refine wp_cS (pc := 18) dX12_proof_18 lk_12_133 rfl rfl rfl (c_X12_in (fun _ => aK_i ?_) (fun q => absurd (by rw [w_int]; exact c2) q))
        refine wp_if_ne (pc := 21) (tgt := 26) dX12_proof_21 rfl (fun _ => ?_) (fun q => absurd q (by decide))
        refine wp_iconst (pc := 26) (v := 1) dX12_proof_26 (by decide) ?_
        refine wp_iload_n (pc := 27) dX12_proof_27 (by first | rfl | assumption | (repeat first | assumption | rfl | refine aG_n ?_ rfl rfl)) ?_
        refine wp_ishl (pc := 28) dX12_proof_28 ?_
        refine wp_istore_n (pc := 29) dX12_proof_29 (by decide) ?_
        refine wp_aload_n (pc := 30) dX12_proof_30 (by first | rfl | assumption | (repeat first | assumption | rfl | refine aG_n ?_ rfl rfl)) ?_
        refine wp_iload_n (pc := 31) dX12_proof_31 (by first | rfl | assumption | (repeat first | assumption | rfl | refine aG_n ?_ rfl rfl)) ?_
        refine wp_iload_n (pc := 32) dX12_proof_32 (by first | rfl | assumption | (repeat first | assumption | rfl | refine aG_n ?_ rfl rfl)) ?_
        refine wp_idiv (pc := 33) dX12_proof_33 (by decide) ?_
        refine wp_iconst (pc := 34) (v := 1) dX12_proof_34 (by decide) ?_
        refine wp_ixor (pc := 35) dX12_proof_35 ?_
        refine wp_iload_n (pc := 36) dX12_proof_36 (by first | rfl | assumption | (repeat first | assumption | rfl | refine aG_n ?_ rfl rfl)) ?_
        refine wp_imul (pc := 37) dX12_proof_37 ?_
        refine wp_iload_n (pc := 38) dX12_proof_38 (by first | rfl | assumption | (repeat first | assumption | rfl | refine aG_n ?_ rfl rfl)) ?_
        refine wp_cV (pc := 39) dX12_proof_39 lk_12_349 rfl (by decide) rfl (by first | rfl | assumption | exact sh_house (by omega) | exact sh_wish (by omega) | exact sh_wor (by omega) | exact sh_bar (by omega) | exact sh_term (by omega) | exact sh_sheet (by omega) | exact sh_items (by omega) | exact sh_sums (by omega)) rfl rfl ?_
        refine wp_aload_n (pc := 0) dX12_sumFrom_0 (by first | rfl | assumption | (repeat first | assumption | rfl | refine aG_n ?_ rfl rfl)) ?_
        refine wp_getR (pc := 1) dX12_sumFrom_1 fl_12_119 (by first | rfl | assumption | exact sh_house (by omega) | exact sh_wish (by omega) | exact sh_wor (by omega) | exact sh_bar (by omega) | exact sh_term (by omega) | exact sh_sheet (by omega) | exact sh_items (by omega) | exact sh_sums (by omega)) rfl ?_
        refine wp_iload_n (pc := 4) dX12_sumFrom_4 (by first | rfl | assumption | (repeat first | assumption | rfl | refine aG_n ?_ rfl rfl)) ?_
        refine wp_ialdC (pc := 5) (j := 4) dX12_sumFrom_5 (by first | rfl | assumption | exact sh_house (by omega) | exact sh_wish (by omega) | exact sh_wor (by omega) | exact sh_bar (by omega) | exact sh_term (by omega) | exact sh_sheet (by omega) | exact sh_items (by omega) | exact sh_sums (by omega)) (by decide) (by decide) ?_
        refine wp_aload_n (pc := 6) dX12_sumFrom_6 (by first | rfl | assumption | (repeat first | assumption | rfl | refine aG_n ?_ rfl rfl)) ?_
        refine wp_getR (pc := 7) dX12_sumFrom_7 fl_12_119 (by first | rfl | assumption | exact sh_house (by omega) | exact sh_wish (by omega) | exact sh_wor (by omega) | exact sh_bar (by omega) | exact sh_term (by omega) | exact sh_sheet (by omega) | exact sh_items (by omega) | exact sh_sums (by omega)) rfl ?_
        refine wp_iload_n (pc := 10) dX12_sumFrom_10 (by first | rfl | assumption | (repeat first | assumption | rfl | refine aG_n ?_ rfl rfl)) ?_
        refine wp_iconst (pc := 11) (v := 1) dX12_sumFrom_11 (by decide) ?_
        refine wp_iadd (pc := 12) dX12_sumFrom_12 ?_
        refine wp_bipush (pc := 13) (v := 8) dX12_sumFrom_13 (by decide) ?_
        refine wp_irem (pc := 15) dX12_sumFrom_15 (by decide) ?_
        refine wp_ialdC (pc := 16) (j := 5) dX12_sumFrom_16 (by first | rfl | assumption | exact sh_house (by omega) | exact sh_wish (by omega) | exact sh_wor (by omega) | exact sh_bar (by omega) | exact sh_term (by omega) | exact sh_sheet (by omega) | exact sh_items (by omega) | exact sh_sums (by omega)) (by decide) (by decide) ?_
        refine wp_cS (pc := 17) dX12_sumFrom_17 lk_12_344 rfl rfl rfl (c_X12_sumOf (aK_i ?_))
        refine wp_istore_n (pc := 20) dX12_sumFrom_20 (by decide) ?_
        refine wp_iload_n (pc := 21) dX12_sumFrom_21 (by first | rfl | assumption | (repeat first | assumption | rfl | refine aG_n ?_ rfl rfl)) ?_
        refine wp_iconst (pc := 22) (v := 4) dX12_sumFrom_22 (by decide) ?_
        refine wp_icmp_ge (pc := 23) (tgt := 42) dX12_sumFrom_23 rfl (fun _ => ?_) (fun q => absurd q (by decide))
        refine wp_iload_n (pc := 42) dX12_sumFrom_42 (by first | rfl | assumption | (repeat first | assumption | rfl | refine aG_n ?_ rfl rfl)) ?_
        refine wp_aload_n (pc := 43) dX12_sumFrom_43 (by first | rfl | assumption | (repeat first | assumption | rfl | refine aG_n ?_ rfl rfl)) ?_
        refine wp_getR (pc := 44) dX12_sumFrom_44 fl_12_119 (by first | rfl | assumption | exact sh_house (by omega) | exact sh_wish (by omega) | exact sh_wor (by omega) | exact sh_bar (by omega) | exact sh_term (by omega) | exact sh_sheet (by omega) | exact sh_items (by omega) | exact sh_sums (by omega)) rfl ?_
        refine wp_iload_n (pc := 47) dX12_sumFrom_47 (by first | rfl | assumption | (repeat first | assumption | rfl | refine aG_n ?_ rfl rfl)) ?_
        refine wp_iconst (pc := 48) (v := 2) dX12_sumFrom_48 (by decide) ?_
        refine wp_iadd (pc := 49) dX12_sumFrom_49 ?_
        refine wp_ialdC (pc := 50) (j := 6) dX12_sumFrom_50 (by first | rfl | assumption | exact sh_house (by omega) | exact sh_wish (by omega) | exact sh_wor (by omega) | exact sh_bar (by omega) | exact sh_term (by omega) | exact sh_sheet (by omega) | exact sh_items (by omega) | exact sh_sums (by omega)) (by decide) (by decide) ?_
        refine wp_aload_n (pc := 51) dX12_sumFrom_51 (by first | rfl | assumption | (repeat first | assumption | rfl | refine aG_n ?_ rfl rfl)) ?_
        refine wp_getR (pc := 52) dX12_sumFrom_52 fl_12_119 (by first | rfl | assumption | exact sh_house (by omega) | exact sh_wish (by omega) | exact sh_wor (by omega) | exact sh_bar (by omega) | exact sh_term (by omega) | exact sh_sheet (by omega) | exact sh_items (by omega) | exact sh_sums (by omega)) rfl ?_
        refine wp_iload_n (pc := 55) dX12_sumFrom_55 (by first | rfl | assumption | (repeat first | assumption | rfl | refine aG_n ?_ rfl rfl)) ?_
        refine wp_iconst (pc := 56) (v := 3) dX12_sumFrom_56 (by decide) ?_
        refine wp_iadd (pc := 57) dX12_sumFrom_57 ?_
        refine wp_ialdC (pc := 58) (j := 7) dX12_sumFrom_58 (by first | rfl | assumption | exact sh_house (by omega) | exact sh_wish (by omega) | exact sh_wor (by omega) | exact sh_bar (by omega) | exact sh_term (by omega) | exact sh_sheet (by omega) | exact sh_items (by omega) | exact sh_sums (by omega)) (by decide) (by decide) ?_
        refine wp_cS (pc := 59) dX12_sumFrom_59 lk_12_344 rfl rfl rfl (c_X12_sumOf (aK_i ?_))
        refine wp_cS (pc := 62) dX12_sumFrom_62 lk_12_344 rfl rfl rfl (c_X12_sumOf (aK_i ?_))
        refine wp_istore (pc := 65) dX12_sumFrom_65 (by decide) ?_
        refine wp_iload_n (pc := 67) dX12_sumFrom_67 (by first | rfl | assumption | (repeat first | assumption | rfl | refine aG_n ?_ rfl rfl)) ?_
        refine wp_iconst (pc := 68) (v := 4) dX12_sumFrom_68 (by decide) ?_
        refine wp_icmp_ne (pc := 69) (tgt := 75) dX12_sumFrom_69 rfl (fun q => absurd q (by decide)) (fun _ => ?_)
        refine wp_iload (pc := 72) dX12_sumFrom_72 (by first | rfl | assumption | (repeat first | assumption | rfl | refine aG_n ?_ rfl rfl)) ?_
        refine wp_iretK (pc := 74) dX12_sumFrom_74 rfl (by first | rfl | decide | assumption) ?_
        refine wp_ireturn (pc := 42) dX12_proof_42 rfl (by first | rfl | decide | assumption) ?_
        refine qEq ?_ (k' _ hI)
        rw [hR.2 3 (by omega) (by omega), hR.2 (2 * 3) (by omega) (by omega), hR.2 (2 * 3 + 1) (by omega) (by omega)]
        rw [← (hR.1 4 (by omega)).1, ← (hR.1 5 (by omega)).1, ← (hR.1 6 (by omega)).1, ← (hR.1 7 (by omega)).1]
      | 2, _, 0, _ =>
        refine wp_iload_n (pc := 0) dX11_proof_0 (by first | rfl | assumption | (repeat first | assumption | rfl | refine aG_n ?_ rfl rfl)) ?_
        refine wp_iconst (pc := 1) (v := 0) dX11_proof_1 (by decide) ?_
        refine wp_bipush (pc := 2) (v := 7) dX11_proof_2 (by decide) ?_
        refine wp_cS (pc := 4) dX11_proof_4 lk_11_112 rfl rfl rfl (c_X11_isWithin (fun _ => aK_i ?_) (fun q => absurd c1 q))
        refine wp_if_eq (pc := 7) (tgt := 19) dX11_proof_7 rfl (fun q => absurd q (by decide)) (fun _ => ?_)
        refine wp_iload_n (pc := 10) dX11_proof_10 (by first | rfl | assumption | (repeat first | assumption | rfl | refine aG_n ?_ rfl rfl)) ?_
        refine wp_iconst (pc := 11) (v := 0) dX11_proof_11 (by decide) ?_
        refine wp_iconst (pc := 12) (v := 2) dX11_proof_12 (by decide) ?_
        refine wp_cS (pc := 13) dX11_proof_13 lk_11_112 rfl rfl rfl (c_X11_isWithin (fun _ => aK_i ?_) (fun q => absurd c2 q))
        refine wp_if_ne (pc := 16) (tgt := 21) dX11_proof_16 rfl (fun _ => ?_) (fun q => absurd q (by decide))
        refine wp_aload_n (pc := 21) dX11_proof_21 (by first | rfl | assumption | (repeat first | assumption | rfl | refine aG_n ?_ rfl rfl)) ?_
        refine wp_getR (pc := 22) dX11_proof_22 fl_11_60 (by first | rfl | assumption | exact sh_house (by omega) | exact sh_wish (by omega) | exact sh_wor (by omega) | exact sh_bar (by omega) | exact sh_term (by omega) | exact sh_sheet (by omega) | exact sh_items (by omega) | exact sh_sums (by omega)) rfl ?_
        refine wp_iload_n (pc := 25) dX11_proof_25 (by first | rfl | assumption | (repeat first | assumption | rfl | refine aG_n ?_ rfl rfl)) ?_
        refine wp_iload_n (pc := 26) dX11_proof_26 (by first | rfl | assumption | (repeat first | assumption | rfl | refine aG_n ?_ rfl rfl)) ?_
        refine wp_cV (pc := 27) dX11_proof_27 lk_11_352 rfl (by decide) rfl (by first | rfl | assumption | exact sh_house (by omega) | exact sh_wish (by omega) | exact sh_wor (by omega) | exact sh_bar (by omega) | exact sh_term (by omega) | exact sh_sheet (by omega) | exact sh_items (by omega) | exact sh_sums (by omega)) rfl rfl ?_
        refine wp_aload_n (pc := 0) dX5_beside_0 (by first | rfl | assumption | (repeat first | assumption | rfl | refine aG_n ?_ rfl rfl)) ?_
        refine wp_getR (pc := 1) dX5_beside_1 fl_5_9 (by first | rfl | assumption | exact sh_house (by omega) | exact sh_wish (by omega) | exact sh_wor (by omega) | exact sh_bar (by omega) | exact sh_term (by omega) | exact sh_sheet (by omega) | exact sh_items (by omega) | exact sh_sums (by omega)) rfl ?_
        refine wp_bipush (pc := 4) (v := 8) dX5_beside_4 (by decide) ?_
        refine wp_iload_n (pc := 6) dX5_beside_6 (by first | rfl | assumption | (repeat first | assumption | rfl | refine aG_n ?_ rfl rfl)) ?_
        refine wp_iadd (pc := 7) dX5_beside_7 ?_
        refine wp_iload_n (pc := 8) dX5_beside_8 (by first | rfl | assumption | (repeat first | assumption | rfl | refine aG_n ?_ rfl rfl)) ?_
        refine wp_ishr (pc := 9) dX5_beside_9 ?_
        refine wp_iconst (pc := 10) (v := 1) dX5_beside_10 (by decide) ?_
        refine wp_ixor (pc := 11) dX5_beside_11 ?_
        refine wp_ialdC (pc := 12) (j := 11) dX5_beside_12 (by first | rfl | assumption | exact sh_house (by omega) | exact sh_wish (by omega) | exact sh_wor (by omega) | exact sh_bar (by omega) | exact sh_term (by omega) | exact sh_sheet (by omega) | exact sh_items (by omega) | exact sh_sums (by omega)) (by decide) (by decide) ?_
        refine wp_iretK (pc := 13) dX5_beside_13 rfl (by first | rfl | decide | assumption) ?_
        refine wp_ireturn (pc := 30) dX11_proof_30 rfl (by first | rfl | decide | assumption) ?_
        refine k _ _ (fun Q' k' => ?_)
        refine wp_iload_n (pc := 0) dX12_proof_0 (by first | rfl | assumption | (repeat first | assumption | rfl | refine aG_n ?_ rfl rfl)) ?_
        refine wp_i2l (pc := 1) dX12_proof_1 ?_
        refine wp_lconst (pc := 2) (v := 0) dX12_proof_2 (by decide) ?_
        refine wp_ldc2 (pc := 3) dX12_proof_3 cl_12_347 ?_
        refine wp_cS (pc := 6) dX12_proof_6 lk_12_133 rfl rfl rfl (c_X12_in (fun _ => aK_i ?_) (fun q => absurd (by rw [w_int]; exact c1) q))
        refine wp_if_eq (pc := 9) (tgt := 24) dX12_proof_9 rfl (fun q => absurd q (by decide)) (fun _ => ?_)
        refine wp_iload_n (pc := 12) dX12_proof_12 (by first | rfl | assumption | (repeat first | assumption | rfl | refine aG_n ?_ rfl rfl)) ?_
        refine wp_i2l (pc := 13) dX12_proof_13 ?_
        refine wp_lconst (pc := 14) (v := 0) dX12_proof_14 (by decide) ?_
        refine wp_ldc2 (pc := 15) dX12_proof_15 cl_12_212 ?_
        refine wp_cS (pc := 18) dX12_proof_18 lk_12_133 rfl rfl rfl (c_X12_in (fun _ => aK_i ?_) (fun q => absurd (by rw [w_int]; exact c2) q))
        refine wp_if_ne (pc := 21) (tgt := 26) dX12_proof_21 rfl (fun _ => ?_) (fun q => absurd q (by decide))
        refine wp_iconst (pc := 26) (v := 1) dX12_proof_26 (by decide) ?_
        refine wp_iload_n (pc := 27) dX12_proof_27 (by first | rfl | assumption | (repeat first | assumption | rfl | refine aG_n ?_ rfl rfl)) ?_
        refine wp_ishl (pc := 28) dX12_proof_28 ?_
        refine wp_istore_n (pc := 29) dX12_proof_29 (by decide) ?_
        refine wp_aload_n (pc := 30) dX12_proof_30 (by first | rfl | assumption | (repeat first | assumption | rfl | refine aG_n ?_ rfl rfl)) ?_
        refine wp_iload_n (pc := 31) dX12_proof_31 (by first | rfl | assumption | (repeat first | assumption | rfl | refine aG_n ?_ rfl rfl)) ?_
        refine wp_iload_n (pc := 32) dX12_proof_32 (by first | rfl | assumption | (repeat first | assumption | rfl | refine aG_n ?_ rfl rfl)) ?_
        refine wp_idiv (pc := 33) dX12_proof_33 (by decide) ?_
        refine wp_iconst (pc := 34) (v := 1) dX12_proof_34 (by decide) ?_
        refine wp_ixor (pc := 35) dX12_proof_35 ?_
        refine wp_iload_n (pc := 36) dX12_proof_36 (by first | rfl | assumption | (repeat first | assumption | rfl | refine aG_n ?_ rfl rfl)) ?_
        refine wp_imul (pc := 37) dX12_proof_37 ?_
        refine wp_iload_n (pc := 38) dX12_proof_38 (by first | rfl | assumption | (repeat first | assumption | rfl | refine aG_n ?_ rfl rfl)) ?_
        refine wp_cV (pc := 39) dX12_proof_39 lk_12_349 rfl (by decide) rfl (by first | rfl | assumption | exact sh_house (by omega) | exact sh_wish (by omega) | exact sh_wor (by omega) | exact sh_bar (by omega) | exact sh_term (by omega) | exact sh_sheet (by omega) | exact sh_items (by omega) | exact sh_sums (by omega)) rfl rfl ?_
        refine wp_aload_n (pc := 0) dX12_sumFrom_0 (by first | rfl | assumption | (repeat first | assumption | rfl | refine aG_n ?_ rfl rfl)) ?_
        refine wp_getR (pc := 1) dX12_sumFrom_1 fl_12_119 (by first | rfl | assumption | exact sh_house (by omega) | exact sh_wish (by omega) | exact sh_wor (by omega) | exact sh_bar (by omega) | exact sh_term (by omega) | exact sh_sheet (by omega) | exact sh_items (by omega) | exact sh_sums (by omega)) rfl ?_
        refine wp_iload_n (pc := 4) dX12_sumFrom_4 (by first | rfl | assumption | (repeat first | assumption | rfl | refine aG_n ?_ rfl rfl)) ?_
        refine wp_ialdC (pc := 5) (j := 3) dX12_sumFrom_5 (by first | rfl | assumption | exact sh_house (by omega) | exact sh_wish (by omega) | exact sh_wor (by omega) | exact sh_bar (by omega) | exact sh_term (by omega) | exact sh_sheet (by omega) | exact sh_items (by omega) | exact sh_sums (by omega)) (by decide) (by decide) ?_
        refine wp_aload_n (pc := 6) dX12_sumFrom_6 (by first | rfl | assumption | (repeat first | assumption | rfl | refine aG_n ?_ rfl rfl)) ?_
        refine wp_getR (pc := 7) dX12_sumFrom_7 fl_12_119 (by first | rfl | assumption | exact sh_house (by omega) | exact sh_wish (by omega) | exact sh_wor (by omega) | exact sh_bar (by omega) | exact sh_term (by omega) | exact sh_sheet (by omega) | exact sh_items (by omega) | exact sh_sums (by omega)) rfl ?_
        refine wp_iload_n (pc := 10) dX12_sumFrom_10 (by first | rfl | assumption | (repeat first | assumption | rfl | refine aG_n ?_ rfl rfl)) ?_
        refine wp_iconst (pc := 11) (v := 1) dX12_sumFrom_11 (by decide) ?_
        refine wp_iadd (pc := 12) dX12_sumFrom_12 ?_
        refine wp_bipush (pc := 13) (v := 8) dX12_sumFrom_13 (by decide) ?_
        refine wp_irem (pc := 15) dX12_sumFrom_15 (by decide) ?_
        refine wp_ialdC (pc := 16) (j := 4) dX12_sumFrom_16 (by first | rfl | assumption | exact sh_house (by omega) | exact sh_wish (by omega) | exact sh_wor (by omega) | exact sh_bar (by omega) | exact sh_term (by omega) | exact sh_sheet (by omega) | exact sh_items (by omega) | exact sh_sums (by omega)) (by decide) (by decide) ?_
        refine wp_cS (pc := 17) dX12_sumFrom_17 lk_12_344 rfl rfl rfl (c_X12_sumOf (aK_i ?_))
        refine wp_istore_n (pc := 20) dX12_sumFrom_20 (by decide) ?_
        refine wp_iload_n (pc := 21) dX12_sumFrom_21 (by first | rfl | assumption | (repeat first | assumption | rfl | refine aG_n ?_ rfl rfl)) ?_
        refine wp_iconst (pc := 22) (v := 4) dX12_sumFrom_22 (by decide) ?_
        refine wp_icmp_ge (pc := 23) (tgt := 42) dX12_sumFrom_23 rfl (fun q => absurd q (by decide)) (fun _ => ?_)
        refine wp_iload_n (pc := 26) dX12_sumFrom_26 (by first | rfl | assumption | (repeat first | assumption | rfl | refine aG_n ?_ rfl rfl)) ?_
        refine wp_iconst (pc := 27) (v := 1) dX12_sumFrom_27 (by decide) ?_
        refine wp_icmp_ne (pc := 28) (tgt := 40) dX12_sumFrom_28 rfl (fun q => absurd q (by decide)) (fun _ => ?_)
        refine wp_aload_n (pc := 31) dX12_sumFrom_31 (by first | rfl | assumption | (repeat first | assumption | rfl | refine aG_n ?_ rfl rfl)) ?_
        refine wp_getR (pc := 32) dX12_sumFrom_32 fl_12_119 (by first | rfl | assumption | exact sh_house (by omega) | exact sh_wish (by omega) | exact sh_wor (by omega) | exact sh_bar (by omega) | exact sh_term (by omega) | exact sh_sheet (by omega) | exact sh_items (by omega) | exact sh_sums (by omega)) rfl ?_
        refine wp_iload_n (pc := 35) dX12_sumFrom_35 (by first | rfl | assumption | (repeat first | assumption | rfl | refine aG_n ?_ rfl rfl)) ?_
        refine wp_ialdC (pc := 36) (j := 3) dX12_sumFrom_36 (by first | rfl | assumption | exact sh_house (by omega) | exact sh_wish (by omega) | exact sh_wor (by omega) | exact sh_bar (by omega) | exact sh_term (by omega) | exact sh_sheet (by omega) | exact sh_items (by omega) | exact sh_sums (by omega)) (by decide) (by decide) ?_
        refine wp_goto (pc := 37) (tgt := 41) dX12_sumFrom_37 rfl ?_
        refine wp_iretK (pc := 41) dX12_sumFrom_41 rfl (by first | rfl | decide | assumption) ?_
        refine wp_ireturn (pc := 42) dX12_proof_42 rfl (by first | rfl | decide | assumption) ?_
        refine qEq ?_ (k' _ hI)
        exact (hR.1 3 (by omega)).1.symm
      | 2, _, 1, _ =>
        refine wp_iload_n (pc := 0) dX11_proof_0 (by first | rfl | assumption | (repeat first | assumption | rfl | refine aG_n ?_ rfl rfl)) ?_
        refine wp_iconst (pc := 1) (v := 0) dX11_proof_1 (by decide) ?_
        refine wp_bipush (pc := 2) (v := 7) dX11_proof_2 (by decide) ?_
        refine wp_cS (pc := 4) dX11_proof_4 lk_11_112 rfl rfl rfl (c_X11_isWithin (fun _ => aK_i ?_) (fun q => absurd c1 q))
        refine wp_if_eq (pc := 7) (tgt := 19) dX11_proof_7 rfl (fun q => absurd q (by decide)) (fun _ => ?_)
        refine wp_iload_n (pc := 10) dX11_proof_10 (by first | rfl | assumption | (repeat first | assumption | rfl | refine aG_n ?_ rfl rfl)) ?_
        refine wp_iconst (pc := 11) (v := 0) dX11_proof_11 (by decide) ?_
        refine wp_iconst (pc := 12) (v := 2) dX11_proof_12 (by decide) ?_
        refine wp_cS (pc := 13) dX11_proof_13 lk_11_112 rfl rfl rfl (c_X11_isWithin (fun _ => aK_i ?_) (fun q => absurd c2 q))
        refine wp_if_ne (pc := 16) (tgt := 21) dX11_proof_16 rfl (fun _ => ?_) (fun q => absurd q (by decide))
        refine wp_aload_n (pc := 21) dX11_proof_21 (by first | rfl | assumption | (repeat first | assumption | rfl | refine aG_n ?_ rfl rfl)) ?_
        refine wp_getR (pc := 22) dX11_proof_22 fl_11_60 (by first | rfl | assumption | exact sh_house (by omega) | exact sh_wish (by omega) | exact sh_wor (by omega) | exact sh_bar (by omega) | exact sh_term (by omega) | exact sh_sheet (by omega) | exact sh_items (by omega) | exact sh_sums (by omega)) rfl ?_
        refine wp_iload_n (pc := 25) dX11_proof_25 (by first | rfl | assumption | (repeat first | assumption | rfl | refine aG_n ?_ rfl rfl)) ?_
        refine wp_iload_n (pc := 26) dX11_proof_26 (by first | rfl | assumption | (repeat first | assumption | rfl | refine aG_n ?_ rfl rfl)) ?_
        refine wp_cV (pc := 27) dX11_proof_27 lk_11_352 rfl (by decide) rfl (by first | rfl | assumption | exact sh_house (by omega) | exact sh_wish (by omega) | exact sh_wor (by omega) | exact sh_bar (by omega) | exact sh_term (by omega) | exact sh_sheet (by omega) | exact sh_items (by omega) | exact sh_sums (by omega)) rfl rfl ?_
        refine wp_aload_n (pc := 0) dX5_beside_0 (by first | rfl | assumption | (repeat first | assumption | rfl | refine aG_n ?_ rfl rfl)) ?_
        refine wp_getR (pc := 1) dX5_beside_1 fl_5_9 (by first | rfl | assumption | exact sh_house (by omega) | exact sh_wish (by omega) | exact sh_wor (by omega) | exact sh_bar (by omega) | exact sh_term (by omega) | exact sh_sheet (by omega) | exact sh_items (by omega) | exact sh_sums (by omega)) rfl ?_
        refine wp_bipush (pc := 4) (v := 8) dX5_beside_4 (by decide) ?_
        refine wp_iload_n (pc := 6) dX5_beside_6 (by first | rfl | assumption | (repeat first | assumption | rfl | refine aG_n ?_ rfl rfl)) ?_
        refine wp_iadd (pc := 7) dX5_beside_7 ?_
        refine wp_iload_n (pc := 8) dX5_beside_8 (by first | rfl | assumption | (repeat first | assumption | rfl | refine aG_n ?_ rfl rfl)) ?_
        refine wp_ishr (pc := 9) dX5_beside_9 ?_
        refine wp_iconst (pc := 10) (v := 1) dX5_beside_10 (by decide) ?_
        refine wp_ixor (pc := 11) dX5_beside_11 ?_
        refine wp_ialdC (pc := 12) (j := 4) dX5_beside_12 (by first | rfl | assumption | exact sh_house (by omega) | exact sh_wish (by omega) | exact sh_wor (by omega) | exact sh_bar (by omega) | exact sh_term (by omega) | exact sh_sheet (by omega) | exact sh_items (by omega) | exact sh_sums (by omega)) (by decide) (by decide) ?_
        refine wp_iretK (pc := 13) dX5_beside_13 rfl (by first | rfl | decide | assumption) ?_
        refine wp_ireturn (pc := 30) dX11_proof_30 rfl (by first | rfl | decide | assumption) ?_
        refine k _ _ (fun Q' k' => ?_)
        refine wp_iload_n (pc := 0) dX12_proof_0 (by first | rfl | assumption | (repeat first | assumption | rfl | refine aG_n ?_ rfl rfl)) ?_
        refine wp_i2l (pc := 1) dX12_proof_1 ?_
        refine wp_lconst (pc := 2) (v := 0) dX12_proof_2 (by decide) ?_
        refine wp_ldc2 (pc := 3) dX12_proof_3 cl_12_347 ?_
        refine wp_cS (pc := 6) dX12_proof_6 lk_12_133 rfl rfl rfl (c_X12_in (fun _ => aK_i ?_) (fun q => absurd (by rw [w_int]; exact c1) q))
        refine wp_if_eq (pc := 9) (tgt := 24) dX12_proof_9 rfl (fun q => absurd q (by decide)) (fun _ => ?_)
        refine wp_iload_n (pc := 12) dX12_proof_12 (by first | rfl | assumption | (repeat first | assumption | rfl | refine aG_n ?_ rfl rfl)) ?_
        refine wp_i2l (pc := 13) dX12_proof_13 ?_
        refine wp_lconst (pc := 14) (v := 0) dX12_proof_14 (by decide) ?_
        refine wp_ldc2 (pc := 15) dX12_proof_15 cl_12_212 ?_
        refine wp_cS (pc := 18) dX12_proof_18 lk_12_133 rfl rfl rfl (c_X12_in (fun _ => aK_i ?_) (fun q => absurd (by rw [w_int]; exact c2) q))
        refine wp_if_ne (pc := 21) (tgt := 26) dX12_proof_21 rfl (fun _ => ?_) (fun q => absurd q (by decide))
        refine wp_iconst (pc := 26) (v := 1) dX12_proof_26 (by decide) ?_
        refine wp_iload_n (pc := 27) dX12_proof_27 (by first | rfl | assumption | (repeat first | assumption | rfl | refine aG_n ?_ rfl rfl)) ?_
        refine wp_ishl (pc := 28) dX12_proof_28 ?_
        refine wp_istore_n (pc := 29) dX12_proof_29 (by decide) ?_
        refine wp_aload_n (pc := 30) dX12_proof_30 (by first | rfl | assumption | (repeat first | assumption | rfl | refine aG_n ?_ rfl rfl)) ?_
        refine wp_iload_n (pc := 31) dX12_proof_31 (by first | rfl | assumption | (repeat first | assumption | rfl | refine aG_n ?_ rfl rfl)) ?_
        refine wp_iload_n (pc := 32) dX12_proof_32 (by first | rfl | assumption | (repeat first | assumption | rfl | refine aG_n ?_ rfl rfl)) ?_
        refine wp_idiv (pc := 33) dX12_proof_33 (by decide) ?_
        refine wp_iconst (pc := 34) (v := 1) dX12_proof_34 (by decide) ?_
        refine wp_ixor (pc := 35) dX12_proof_35 ?_
        refine wp_iload_n (pc := 36) dX12_proof_36 (by first | rfl | assumption | (repeat first | assumption | rfl | refine aG_n ?_ rfl rfl)) ?_
        refine wp_imul (pc := 37) dX12_proof_37 ?_
        refine wp_iload_n (pc := 38) dX12_proof_38 (by first | rfl | assumption | (repeat first | assumption | rfl | refine aG_n ?_ rfl rfl)) ?_
        refine wp_cV (pc := 39) dX12_proof_39 lk_12_349 rfl (by decide) rfl (by first | rfl | assumption | exact sh_house (by omega) | exact sh_wish (by omega) | exact sh_wor (by omega) | exact sh_bar (by omega) | exact sh_term (by omega) | exact sh_sheet (by omega) | exact sh_items (by omega) | exact sh_sums (by omega)) rfl rfl ?_
        refine wp_aload_n (pc := 0) dX12_sumFrom_0 (by first | rfl | assumption | (repeat first | assumption | rfl | refine aG_n ?_ rfl rfl)) ?_
        refine wp_getR (pc := 1) dX12_sumFrom_1 fl_12_119 (by first | rfl | assumption | exact sh_house (by omega) | exact sh_wish (by omega) | exact sh_wor (by omega) | exact sh_bar (by omega) | exact sh_term (by omega) | exact sh_sheet (by omega) | exact sh_items (by omega) | exact sh_sums (by omega)) rfl ?_
        refine wp_iload_n (pc := 4) dX12_sumFrom_4 (by first | rfl | assumption | (repeat first | assumption | rfl | refine aG_n ?_ rfl rfl)) ?_
        refine wp_ialdC (pc := 5) (j := 0) dX12_sumFrom_5 (by first | rfl | assumption | exact sh_house (by omega) | exact sh_wish (by omega) | exact sh_wor (by omega) | exact sh_bar (by omega) | exact sh_term (by omega) | exact sh_sheet (by omega) | exact sh_items (by omega) | exact sh_sums (by omega)) (by decide) (by decide) ?_
        refine wp_aload_n (pc := 6) dX12_sumFrom_6 (by first | rfl | assumption | (repeat first | assumption | rfl | refine aG_n ?_ rfl rfl)) ?_
        refine wp_getR (pc := 7) dX12_sumFrom_7 fl_12_119 (by first | rfl | assumption | exact sh_house (by omega) | exact sh_wish (by omega) | exact sh_wor (by omega) | exact sh_bar (by omega) | exact sh_term (by omega) | exact sh_sheet (by omega) | exact sh_items (by omega) | exact sh_sums (by omega)) rfl ?_
        refine wp_iload_n (pc := 10) dX12_sumFrom_10 (by first | rfl | assumption | (repeat first | assumption | rfl | refine aG_n ?_ rfl rfl)) ?_
        refine wp_iconst (pc := 11) (v := 1) dX12_sumFrom_11 (by decide) ?_
        refine wp_iadd (pc := 12) dX12_sumFrom_12 ?_
        refine wp_bipush (pc := 13) (v := 8) dX12_sumFrom_13 (by decide) ?_
        refine wp_irem (pc := 15) dX12_sumFrom_15 (by decide) ?_
        refine wp_ialdC (pc := 16) (j := 1) dX12_sumFrom_16 (by first | rfl | assumption | exact sh_house (by omega) | exact sh_wish (by omega) | exact sh_wor (by omega) | exact sh_bar (by omega) | exact sh_term (by omega) | exact sh_sheet (by omega) | exact sh_items (by omega) | exact sh_sums (by omega)) (by decide) (by decide) ?_
        refine wp_cS (pc := 17) dX12_sumFrom_17 lk_12_344 rfl rfl rfl (c_X12_sumOf (aK_i ?_))
        refine wp_istore_n (pc := 20) dX12_sumFrom_20 (by decide) ?_
        refine wp_iload_n (pc := 21) dX12_sumFrom_21 (by first | rfl | assumption | (repeat first | assumption | rfl | refine aG_n ?_ rfl rfl)) ?_
        refine wp_iconst (pc := 22) (v := 4) dX12_sumFrom_22 (by decide) ?_
        refine wp_icmp_ge (pc := 23) (tgt := 42) dX12_sumFrom_23 rfl (fun q => absurd q (by decide)) (fun _ => ?_)
        refine wp_iload_n (pc := 26) dX12_sumFrom_26 (by first | rfl | assumption | (repeat first | assumption | rfl | refine aG_n ?_ rfl rfl)) ?_
        refine wp_iconst (pc := 27) (v := 1) dX12_sumFrom_27 (by decide) ?_
        refine wp_icmp_ne (pc := 28) (tgt := 40) dX12_sumFrom_28 rfl (fun _ => ?_) (fun q => absurd q (by decide))
        refine wp_iload_n (pc := 40) dX12_sumFrom_40 (by first | rfl | assumption | (repeat first | assumption | rfl | refine aG_n ?_ rfl rfl)) ?_
        refine wp_iretK (pc := 41) dX12_sumFrom_41 rfl (by first | rfl | decide | assumption) ?_
        refine wp_ireturn (pc := 42) dX12_proof_42 rfl (by first | rfl | decide | assumption) ?_
        refine qEq ?_ (k' _ hI)
        rw [hR.2 4 (by omega) (by omega)]
        rw [← (hR.1 0 (by omega)).1, ← (hR.1 1 (by omega)).1]
      | 2, _, 2, _ =>
        refine wp_iload_n (pc := 0) dX11_proof_0 (by first | rfl | assumption | (repeat first | assumption | rfl | refine aG_n ?_ rfl rfl)) ?_
        refine wp_iconst (pc := 1) (v := 0) dX11_proof_1 (by decide) ?_
        refine wp_bipush (pc := 2) (v := 7) dX11_proof_2 (by decide) ?_
        refine wp_cS (pc := 4) dX11_proof_4 lk_11_112 rfl rfl rfl (c_X11_isWithin (fun _ => aK_i ?_) (fun q => absurd c1 q))
        refine wp_if_eq (pc := 7) (tgt := 19) dX11_proof_7 rfl (fun q => absurd q (by decide)) (fun _ => ?_)
        refine wp_iload_n (pc := 10) dX11_proof_10 (by first | rfl | assumption | (repeat first | assumption | rfl | refine aG_n ?_ rfl rfl)) ?_
        refine wp_iconst (pc := 11) (v := 0) dX11_proof_11 (by decide) ?_
        refine wp_iconst (pc := 12) (v := 2) dX11_proof_12 (by decide) ?_
        refine wp_cS (pc := 13) dX11_proof_13 lk_11_112 rfl rfl rfl (c_X11_isWithin (fun _ => aK_i ?_) (fun q => absurd c2 q))
        refine wp_if_ne (pc := 16) (tgt := 21) dX11_proof_16 rfl (fun _ => ?_) (fun q => absurd q (by decide))
        refine wp_aload_n (pc := 21) dX11_proof_21 (by first | rfl | assumption | (repeat first | assumption | rfl | refine aG_n ?_ rfl rfl)) ?_
        refine wp_getR (pc := 22) dX11_proof_22 fl_11_60 (by first | rfl | assumption | exact sh_house (by omega) | exact sh_wish (by omega) | exact sh_wor (by omega) | exact sh_bar (by omega) | exact sh_term (by omega) | exact sh_sheet (by omega) | exact sh_items (by omega) | exact sh_sums (by omega)) rfl ?_
        refine wp_iload_n (pc := 25) dX11_proof_25 (by first | rfl | assumption | (repeat first | assumption | rfl | refine aG_n ?_ rfl rfl)) ?_
        refine wp_iload_n (pc := 26) dX11_proof_26 (by first | rfl | assumption | (repeat first | assumption | rfl | refine aG_n ?_ rfl rfl)) ?_
        refine wp_cV (pc := 27) dX11_proof_27 lk_11_352 rfl (by decide) rfl (by first | rfl | assumption | exact sh_house (by omega) | exact sh_wish (by omega) | exact sh_wor (by omega) | exact sh_bar (by omega) | exact sh_term (by omega) | exact sh_sheet (by omega) | exact sh_items (by omega) | exact sh_sums (by omega)) rfl rfl ?_
        refine wp_aload_n (pc := 0) dX5_beside_0 (by first | rfl | assumption | (repeat first | assumption | rfl | refine aG_n ?_ rfl rfl)) ?_
        refine wp_getR (pc := 1) dX5_beside_1 fl_5_9 (by first | rfl | assumption | exact sh_house (by omega) | exact sh_wish (by omega) | exact sh_wor (by omega) | exact sh_bar (by omega) | exact sh_term (by omega) | exact sh_sheet (by omega) | exact sh_items (by omega) | exact sh_sums (by omega)) rfl ?_
        refine wp_bipush (pc := 4) (v := 8) dX5_beside_4 (by decide) ?_
        refine wp_iload_n (pc := 6) dX5_beside_6 (by first | rfl | assumption | (repeat first | assumption | rfl | refine aG_n ?_ rfl rfl)) ?_
        refine wp_iadd (pc := 7) dX5_beside_7 ?_
        refine wp_iload_n (pc := 8) dX5_beside_8 (by first | rfl | assumption | (repeat first | assumption | rfl | refine aG_n ?_ rfl rfl)) ?_
        refine wp_ishr (pc := 9) dX5_beside_9 ?_
        refine wp_iconst (pc := 10) (v := 1) dX5_beside_10 (by decide) ?_
        refine wp_ixor (pc := 11) dX5_beside_11 ?_
        refine wp_ialdC (pc := 12) (j := 3) dX5_beside_12 (by first | rfl | assumption | exact sh_house (by omega) | exact sh_wish (by omega) | exact sh_wor (by omega) | exact sh_bar (by omega) | exact sh_term (by omega) | exact sh_sheet (by omega) | exact sh_items (by omega) | exact sh_sums (by omega)) (by decide) (by decide) ?_
        refine wp_iretK (pc := 13) dX5_beside_13 rfl (by first | rfl | decide | assumption) ?_
        refine wp_ireturn (pc := 30) dX11_proof_30 rfl (by first | rfl | decide | assumption) ?_
        refine k _ _ (fun Q' k' => ?_)
        refine wp_iload_n (pc := 0) dX12_proof_0 (by first | rfl | assumption | (repeat first | assumption | rfl | refine aG_n ?_ rfl rfl)) ?_
        refine wp_i2l (pc := 1) dX12_proof_1 ?_
        refine wp_lconst (pc := 2) (v := 0) dX12_proof_2 (by decide) ?_
        refine wp_ldc2 (pc := 3) dX12_proof_3 cl_12_347 ?_
        refine wp_cS (pc := 6) dX12_proof_6 lk_12_133 rfl rfl rfl (c_X12_in (fun _ => aK_i ?_) (fun q => absurd (by rw [w_int]; exact c1) q))
        refine wp_if_eq (pc := 9) (tgt := 24) dX12_proof_9 rfl (fun q => absurd q (by decide)) (fun _ => ?_)
        refine wp_iload_n (pc := 12) dX12_proof_12 (by first | rfl | assumption | (repeat first | assumption | rfl | refine aG_n ?_ rfl rfl)) ?_
        refine wp_i2l (pc := 13) dX12_proof_13 ?_
        refine wp_lconst (pc := 14) (v := 0) dX12_proof_14 (by decide) ?_
        refine wp_ldc2 (pc := 15) dX12_proof_15 cl_12_212 ?_
        refine wp_cS (pc := 18) dX12_proof_18 lk_12_133 rfl rfl rfl (c_X12_in (fun _ => aK_i ?_) (fun q => absurd (by rw [w_int]; exact c2) q))
        refine wp_if_ne (pc := 21) (tgt := 26) dX12_proof_21 rfl (fun _ => ?_) (fun q => absurd q (by decide))
        refine wp_iconst (pc := 26) (v := 1) dX12_proof_26 (by decide) ?_
        refine wp_iload_n (pc := 27) dX12_proof_27 (by first | rfl | assumption | (repeat first | assumption | rfl | refine aG_n ?_ rfl rfl)) ?_
        refine wp_ishl (pc := 28) dX12_proof_28 ?_
        refine wp_istore_n (pc := 29) dX12_proof_29 (by decide) ?_
        refine wp_aload_n (pc := 30) dX12_proof_30 (by first | rfl | assumption | (repeat first | assumption | rfl | refine aG_n ?_ rfl rfl)) ?_
        refine wp_iload_n (pc := 31) dX12_proof_31 (by first | rfl | assumption | (repeat first | assumption | rfl | refine aG_n ?_ rfl rfl)) ?_
        refine wp_iload_n (pc := 32) dX12_proof_32 (by first | rfl | assumption | (repeat first | assumption | rfl | refine aG_n ?_ rfl rfl)) ?_
        refine wp_idiv (pc := 33) dX12_proof_33 (by decide) ?_
        refine wp_iconst (pc := 34) (v := 1) dX12_proof_34 (by decide) ?_
        refine wp_ixor (pc := 35) dX12_proof_35 ?_
        refine wp_iload_n (pc := 36) dX12_proof_36 (by first | rfl | assumption | (repeat first | assumption | rfl | refine aG_n ?_ rfl rfl)) ?_
        refine wp_imul (pc := 37) dX12_proof_37 ?_
        refine wp_iload_n (pc := 38) dX12_proof_38 (by first | rfl | assumption | (repeat first | assumption | rfl | refine aG_n ?_ rfl rfl)) ?_
        refine wp_cV (pc := 39) dX12_proof_39 lk_12_349 rfl (by decide) rfl (by first | rfl | assumption | exact sh_house (by omega) | exact sh_wish (by omega) | exact sh_wor (by omega) | exact sh_bar (by omega) | exact sh_term (by omega) | exact sh_sheet (by omega) | exact sh_items (by omega) | exact sh_sums (by omega)) rfl rfl ?_
        refine wp_aload_n (pc := 0) dX12_sumFrom_0 (by first | rfl | assumption | (repeat first | assumption | rfl | refine aG_n ?_ rfl rfl)) ?_
        refine wp_getR (pc := 1) dX12_sumFrom_1 fl_12_119 (by first | rfl | assumption | exact sh_house (by omega) | exact sh_wish (by omega) | exact sh_wor (by omega) | exact sh_bar (by omega) | exact sh_term (by omega) | exact sh_sheet (by omega) | exact sh_items (by omega) | exact sh_sums (by omega)) rfl ?_
        refine wp_iload_n (pc := 4) dX12_sumFrom_4 (by first | rfl | assumption | (repeat first | assumption | rfl | refine aG_n ?_ rfl rfl)) ?_
        refine wp_ialdC (pc := 5) (j := 4) dX12_sumFrom_5 (by first | rfl | assumption | exact sh_house (by omega) | exact sh_wish (by omega) | exact sh_wor (by omega) | exact sh_bar (by omega) | exact sh_term (by omega) | exact sh_sheet (by omega) | exact sh_items (by omega) | exact sh_sums (by omega)) (by decide) (by decide) ?_
        refine wp_aload_n (pc := 6) dX12_sumFrom_6 (by first | rfl | assumption | (repeat first | assumption | rfl | refine aG_n ?_ rfl rfl)) ?_
        refine wp_getR (pc := 7) dX12_sumFrom_7 fl_12_119 (by first | rfl | assumption | exact sh_house (by omega) | exact sh_wish (by omega) | exact sh_wor (by omega) | exact sh_bar (by omega) | exact sh_term (by omega) | exact sh_sheet (by omega) | exact sh_items (by omega) | exact sh_sums (by omega)) rfl ?_
        refine wp_iload_n (pc := 10) dX12_sumFrom_10 (by first | rfl | assumption | (repeat first | assumption | rfl | refine aG_n ?_ rfl rfl)) ?_
        refine wp_iconst (pc := 11) (v := 1) dX12_sumFrom_11 (by decide) ?_
        refine wp_iadd (pc := 12) dX12_sumFrom_12 ?_
        refine wp_bipush (pc := 13) (v := 8) dX12_sumFrom_13 (by decide) ?_
        refine wp_irem (pc := 15) dX12_sumFrom_15 (by decide) ?_
        refine wp_ialdC (pc := 16) (j := 5) dX12_sumFrom_16 (by first | rfl | assumption | exact sh_house (by omega) | exact sh_wish (by omega) | exact sh_wor (by omega) | exact sh_bar (by omega) | exact sh_term (by omega) | exact sh_sheet (by omega) | exact sh_items (by omega) | exact sh_sums (by omega)) (by decide) (by decide) ?_
        refine wp_cS (pc := 17) dX12_sumFrom_17 lk_12_344 rfl rfl rfl (c_X12_sumOf (aK_i ?_))
        refine wp_istore_n (pc := 20) dX12_sumFrom_20 (by decide) ?_
        refine wp_iload_n (pc := 21) dX12_sumFrom_21 (by first | rfl | assumption | (repeat first | assumption | rfl | refine aG_n ?_ rfl rfl)) ?_
        refine wp_iconst (pc := 22) (v := 4) dX12_sumFrom_22 (by decide) ?_
        refine wp_icmp_ge (pc := 23) (tgt := 42) dX12_sumFrom_23 rfl (fun _ => ?_) (fun q => absurd q (by decide))
        refine wp_iload_n (pc := 42) dX12_sumFrom_42 (by first | rfl | assumption | (repeat first | assumption | rfl | refine aG_n ?_ rfl rfl)) ?_
        refine wp_aload_n (pc := 43) dX12_sumFrom_43 (by first | rfl | assumption | (repeat first | assumption | rfl | refine aG_n ?_ rfl rfl)) ?_
        refine wp_getR (pc := 44) dX12_sumFrom_44 fl_12_119 (by first | rfl | assumption | exact sh_house (by omega) | exact sh_wish (by omega) | exact sh_wor (by omega) | exact sh_bar (by omega) | exact sh_term (by omega) | exact sh_sheet (by omega) | exact sh_items (by omega) | exact sh_sums (by omega)) rfl ?_
        refine wp_iload_n (pc := 47) dX12_sumFrom_47 (by first | rfl | assumption | (repeat first | assumption | rfl | refine aG_n ?_ rfl rfl)) ?_
        refine wp_iconst (pc := 48) (v := 2) dX12_sumFrom_48 (by decide) ?_
        refine wp_iadd (pc := 49) dX12_sumFrom_49 ?_
        refine wp_ialdC (pc := 50) (j := 6) dX12_sumFrom_50 (by first | rfl | assumption | exact sh_house (by omega) | exact sh_wish (by omega) | exact sh_wor (by omega) | exact sh_bar (by omega) | exact sh_term (by omega) | exact sh_sheet (by omega) | exact sh_items (by omega) | exact sh_sums (by omega)) (by decide) (by decide) ?_
        refine wp_aload_n (pc := 51) dX12_sumFrom_51 (by first | rfl | assumption | (repeat first | assumption | rfl | refine aG_n ?_ rfl rfl)) ?_
        refine wp_getR (pc := 52) dX12_sumFrom_52 fl_12_119 (by first | rfl | assumption | exact sh_house (by omega) | exact sh_wish (by omega) | exact sh_wor (by omega) | exact sh_bar (by omega) | exact sh_term (by omega) | exact sh_sheet (by omega) | exact sh_items (by omega) | exact sh_sums (by omega)) rfl ?_
        refine wp_iload_n (pc := 55) dX12_sumFrom_55 (by first | rfl | assumption | (repeat first | assumption | rfl | refine aG_n ?_ rfl rfl)) ?_
        refine wp_iconst (pc := 56) (v := 3) dX12_sumFrom_56 (by decide) ?_
        refine wp_iadd (pc := 57) dX12_sumFrom_57 ?_
        refine wp_ialdC (pc := 58) (j := 7) dX12_sumFrom_58 (by first | rfl | assumption | exact sh_house (by omega) | exact sh_wish (by omega) | exact sh_wor (by omega) | exact sh_bar (by omega) | exact sh_term (by omega) | exact sh_sheet (by omega) | exact sh_items (by omega) | exact sh_sums (by omega)) (by decide) (by decide) ?_
        refine wp_cS (pc := 59) dX12_sumFrom_59 lk_12_344 rfl rfl rfl (c_X12_sumOf (aK_i ?_))
        refine wp_cS (pc := 62) dX12_sumFrom_62 lk_12_344 rfl rfl rfl (c_X12_sumOf (aK_i ?_))
        refine wp_istore (pc := 65) dX12_sumFrom_65 (by decide) ?_
        refine wp_iload_n (pc := 67) dX12_sumFrom_67 (by first | rfl | assumption | (repeat first | assumption | rfl | refine aG_n ?_ rfl rfl)) ?_
        refine wp_iconst (pc := 68) (v := 4) dX12_sumFrom_68 (by decide) ?_
        refine wp_icmp_ne (pc := 69) (tgt := 75) dX12_sumFrom_69 rfl (fun q => absurd q (by decide)) (fun _ => ?_)
        refine wp_iload (pc := 72) dX12_sumFrom_72 (by first | rfl | assumption | (repeat first | assumption | rfl | refine aG_n ?_ rfl rfl)) ?_
        refine wp_iretK (pc := 74) dX12_sumFrom_74 rfl (by first | rfl | decide | assumption) ?_
        refine wp_ireturn (pc := 42) dX12_proof_42 rfl (by first | rfl | decide | assumption) ?_
        refine qEq ?_ (k' _ hI)
        rw [hR.2 3 (by omega) (by omega), hR.2 (2 * 3) (by omega) (by omega), hR.2 (2 * 3 + 1) (by omega) (by omega)]
        rw [← (hR.1 4 (by omega)).1, ← (hR.1 5 (by omega)).1, ← (hR.1 6 (by omega)).1, ← (hR.1 7 (by omega)).1]
      | 3, _, 0, _ =>
        refine wp_iload_n (pc := 0) dX11_proof_0 (by first | rfl | assumption | (repeat first | assumption | rfl | refine aG_n ?_ rfl rfl)) ?_
        refine wp_iconst (pc := 1) (v := 0) dX11_proof_1 (by decide) ?_
        refine wp_bipush (pc := 2) (v := 7) dX11_proof_2 (by decide) ?_
        refine wp_cS (pc := 4) dX11_proof_4 lk_11_112 rfl rfl rfl (c_X11_isWithin (fun _ => aK_i ?_) (fun q => absurd c1 q))
        refine wp_if_eq (pc := 7) (tgt := 19) dX11_proof_7 rfl (fun q => absurd q (by decide)) (fun _ => ?_)
        refine wp_iload_n (pc := 10) dX11_proof_10 (by first | rfl | assumption | (repeat first | assumption | rfl | refine aG_n ?_ rfl rfl)) ?_
        refine wp_iconst (pc := 11) (v := 0) dX11_proof_11 (by decide) ?_
        refine wp_iconst (pc := 12) (v := 2) dX11_proof_12 (by decide) ?_
        refine wp_cS (pc := 13) dX11_proof_13 lk_11_112 rfl rfl rfl (c_X11_isWithin (fun _ => aK_i ?_) (fun q => absurd c2 q))
        refine wp_if_ne (pc := 16) (tgt := 21) dX11_proof_16 rfl (fun _ => ?_) (fun q => absurd q (by decide))
        refine wp_aload_n (pc := 21) dX11_proof_21 (by first | rfl | assumption | (repeat first | assumption | rfl | refine aG_n ?_ rfl rfl)) ?_
        refine wp_getR (pc := 22) dX11_proof_22 fl_11_60 (by first | rfl | assumption | exact sh_house (by omega) | exact sh_wish (by omega) | exact sh_wor (by omega) | exact sh_bar (by omega) | exact sh_term (by omega) | exact sh_sheet (by omega) | exact sh_items (by omega) | exact sh_sums (by omega)) rfl ?_
        refine wp_iload_n (pc := 25) dX11_proof_25 (by first | rfl | assumption | (repeat first | assumption | rfl | refine aG_n ?_ rfl rfl)) ?_
        refine wp_iload_n (pc := 26) dX11_proof_26 (by first | rfl | assumption | (repeat first | assumption | rfl | refine aG_n ?_ rfl rfl)) ?_
        refine wp_cV (pc := 27) dX11_proof_27 lk_11_352 rfl (by decide) rfl (by first | rfl | assumption | exact sh_house (by omega) | exact sh_wish (by omega) | exact sh_wor (by omega) | exact sh_bar (by omega) | exact sh_term (by omega) | exact sh_sheet (by omega) | exact sh_items (by omega) | exact sh_sums (by omega)) rfl rfl ?_
        refine wp_aload_n (pc := 0) dX5_beside_0 (by first | rfl | assumption | (repeat first | assumption | rfl | refine aG_n ?_ rfl rfl)) ?_
        refine wp_getR (pc := 1) dX5_beside_1 fl_5_9 (by first | rfl | assumption | exact sh_house (by omega) | exact sh_wish (by omega) | exact sh_wor (by omega) | exact sh_bar (by omega) | exact sh_term (by omega) | exact sh_sheet (by omega) | exact sh_items (by omega) | exact sh_sums (by omega)) rfl ?_
        refine wp_bipush (pc := 4) (v := 8) dX5_beside_4 (by decide) ?_
        refine wp_iload_n (pc := 6) dX5_beside_6 (by first | rfl | assumption | (repeat first | assumption | rfl | refine aG_n ?_ rfl rfl)) ?_
        refine wp_iadd (pc := 7) dX5_beside_7 ?_
        refine wp_iload_n (pc := 8) dX5_beside_8 (by first | rfl | assumption | (repeat first | assumption | rfl | refine aG_n ?_ rfl rfl)) ?_
        refine wp_ishr (pc := 9) dX5_beside_9 ?_
        refine wp_iconst (pc := 10) (v := 1) dX5_beside_10 (by decide) ?_
        refine wp_ixor (pc := 11) dX5_beside_11 ?_
        refine wp_ialdC (pc := 12) (j := 10) dX5_beside_12 (by first | rfl | assumption | exact sh_house (by omega) | exact sh_wish (by omega) | exact sh_wor (by omega) | exact sh_bar (by omega) | exact sh_term (by omega) | exact sh_sheet (by omega) | exact sh_items (by omega) | exact sh_sums (by omega)) (by decide) (by decide) ?_
        refine wp_iretK (pc := 13) dX5_beside_13 rfl (by first | rfl | decide | assumption) ?_
        refine wp_ireturn (pc := 30) dX11_proof_30 rfl (by first | rfl | decide | assumption) ?_
        refine k _ _ (fun Q' k' => ?_)
        refine wp_iload_n (pc := 0) dX12_proof_0 (by first | rfl | assumption | (repeat first | assumption | rfl | refine aG_n ?_ rfl rfl)) ?_
        refine wp_i2l (pc := 1) dX12_proof_1 ?_
        refine wp_lconst (pc := 2) (v := 0) dX12_proof_2 (by decide) ?_
        refine wp_ldc2 (pc := 3) dX12_proof_3 cl_12_347 ?_
        refine wp_cS (pc := 6) dX12_proof_6 lk_12_133 rfl rfl rfl (c_X12_in (fun _ => aK_i ?_) (fun q => absurd (by rw [w_int]; exact c1) q))
        refine wp_if_eq (pc := 9) (tgt := 24) dX12_proof_9 rfl (fun q => absurd q (by decide)) (fun _ => ?_)
        refine wp_iload_n (pc := 12) dX12_proof_12 (by first | rfl | assumption | (repeat first | assumption | rfl | refine aG_n ?_ rfl rfl)) ?_
        refine wp_i2l (pc := 13) dX12_proof_13 ?_
        refine wp_lconst (pc := 14) (v := 0) dX12_proof_14 (by decide) ?_
        refine wp_ldc2 (pc := 15) dX12_proof_15 cl_12_212 ?_
        refine wp_cS (pc := 18) dX12_proof_18 lk_12_133 rfl rfl rfl (c_X12_in (fun _ => aK_i ?_) (fun q => absurd (by rw [w_int]; exact c2) q))
        refine wp_if_ne (pc := 21) (tgt := 26) dX12_proof_21 rfl (fun _ => ?_) (fun q => absurd q (by decide))
        refine wp_iconst (pc := 26) (v := 1) dX12_proof_26 (by decide) ?_
        refine wp_iload_n (pc := 27) dX12_proof_27 (by first | rfl | assumption | (repeat first | assumption | rfl | refine aG_n ?_ rfl rfl)) ?_
        refine wp_ishl (pc := 28) dX12_proof_28 ?_
        refine wp_istore_n (pc := 29) dX12_proof_29 (by decide) ?_
        refine wp_aload_n (pc := 30) dX12_proof_30 (by first | rfl | assumption | (repeat first | assumption | rfl | refine aG_n ?_ rfl rfl)) ?_
        refine wp_iload_n (pc := 31) dX12_proof_31 (by first | rfl | assumption | (repeat first | assumption | rfl | refine aG_n ?_ rfl rfl)) ?_
        refine wp_iload_n (pc := 32) dX12_proof_32 (by first | rfl | assumption | (repeat first | assumption | rfl | refine aG_n ?_ rfl rfl)) ?_
        refine wp_idiv (pc := 33) dX12_proof_33 (by decide) ?_
        refine wp_iconst (pc := 34) (v := 1) dX12_proof_34 (by decide) ?_
        refine wp_ixor (pc := 35) dX12_proof_35 ?_
        refine wp_iload_n (pc := 36) dX12_proof_36 (by first | rfl | assumption | (repeat first | assumption | rfl | refine aG_n ?_ rfl rfl)) ?_
        refine wp_imul (pc := 37) dX12_proof_37 ?_
        refine wp_iload_n (pc := 38) dX12_proof_38 (by first | rfl | assumption | (repeat first | assumption | rfl | refine aG_n ?_ rfl rfl)) ?_
        refine wp_cV (pc := 39) dX12_proof_39 lk_12_349 rfl (by decide) rfl (by first | rfl | assumption | exact sh_house (by omega) | exact sh_wish (by omega) | exact sh_wor (by omega) | exact sh_bar (by omega) | exact sh_term (by omega) | exact sh_sheet (by omega) | exact sh_items (by omega) | exact sh_sums (by omega)) rfl rfl ?_
        refine wp_aload_n (pc := 0) dX12_sumFrom_0 (by first | rfl | assumption | (repeat first | assumption | rfl | refine aG_n ?_ rfl rfl)) ?_
        refine wp_getR (pc := 1) dX12_sumFrom_1 fl_12_119 (by first | rfl | assumption | exact sh_house (by omega) | exact sh_wish (by omega) | exact sh_wor (by omega) | exact sh_bar (by omega) | exact sh_term (by omega) | exact sh_sheet (by omega) | exact sh_items (by omega) | exact sh_sums (by omega)) rfl ?_
        refine wp_iload_n (pc := 4) dX12_sumFrom_4 (by first | rfl | assumption | (repeat first | assumption | rfl | refine aG_n ?_ rfl rfl)) ?_
        refine wp_ialdC (pc := 5) (j := 2) dX12_sumFrom_5 (by first | rfl | assumption | exact sh_house (by omega) | exact sh_wish (by omega) | exact sh_wor (by omega) | exact sh_bar (by omega) | exact sh_term (by omega) | exact sh_sheet (by omega) | exact sh_items (by omega) | exact sh_sums (by omega)) (by decide) (by decide) ?_
        refine wp_aload_n (pc := 6) dX12_sumFrom_6 (by first | rfl | assumption | (repeat first | assumption | rfl | refine aG_n ?_ rfl rfl)) ?_
        refine wp_getR (pc := 7) dX12_sumFrom_7 fl_12_119 (by first | rfl | assumption | exact sh_house (by omega) | exact sh_wish (by omega) | exact sh_wor (by omega) | exact sh_bar (by omega) | exact sh_term (by omega) | exact sh_sheet (by omega) | exact sh_items (by omega) | exact sh_sums (by omega)) rfl ?_
        refine wp_iload_n (pc := 10) dX12_sumFrom_10 (by first | rfl | assumption | (repeat first | assumption | rfl | refine aG_n ?_ rfl rfl)) ?_
        refine wp_iconst (pc := 11) (v := 1) dX12_sumFrom_11 (by decide) ?_
        refine wp_iadd (pc := 12) dX12_sumFrom_12 ?_
        refine wp_bipush (pc := 13) (v := 8) dX12_sumFrom_13 (by decide) ?_
        refine wp_irem (pc := 15) dX12_sumFrom_15 (by decide) ?_
        refine wp_ialdC (pc := 16) (j := 3) dX12_sumFrom_16 (by first | rfl | assumption | exact sh_house (by omega) | exact sh_wish (by omega) | exact sh_wor (by omega) | exact sh_bar (by omega) | exact sh_term (by omega) | exact sh_sheet (by omega) | exact sh_items (by omega) | exact sh_sums (by omega)) (by decide) (by decide) ?_
        refine wp_cS (pc := 17) dX12_sumFrom_17 lk_12_344 rfl rfl rfl (c_X12_sumOf (aK_i ?_))
        refine wp_istore_n (pc := 20) dX12_sumFrom_20 (by decide) ?_
        refine wp_iload_n (pc := 21) dX12_sumFrom_21 (by first | rfl | assumption | (repeat first | assumption | rfl | refine aG_n ?_ rfl rfl)) ?_
        refine wp_iconst (pc := 22) (v := 4) dX12_sumFrom_22 (by decide) ?_
        refine wp_icmp_ge (pc := 23) (tgt := 42) dX12_sumFrom_23 rfl (fun q => absurd q (by decide)) (fun _ => ?_)
        refine wp_iload_n (pc := 26) dX12_sumFrom_26 (by first | rfl | assumption | (repeat first | assumption | rfl | refine aG_n ?_ rfl rfl)) ?_
        refine wp_iconst (pc := 27) (v := 1) dX12_sumFrom_27 (by decide) ?_
        refine wp_icmp_ne (pc := 28) (tgt := 40) dX12_sumFrom_28 rfl (fun q => absurd q (by decide)) (fun _ => ?_)
        refine wp_aload_n (pc := 31) dX12_sumFrom_31 (by first | rfl | assumption | (repeat first | assumption | rfl | refine aG_n ?_ rfl rfl)) ?_
        refine wp_getR (pc := 32) dX12_sumFrom_32 fl_12_119 (by first | rfl | assumption | exact sh_house (by omega) | exact sh_wish (by omega) | exact sh_wor (by omega) | exact sh_bar (by omega) | exact sh_term (by omega) | exact sh_sheet (by omega) | exact sh_items (by omega) | exact sh_sums (by omega)) rfl ?_
        refine wp_iload_n (pc := 35) dX12_sumFrom_35 (by first | rfl | assumption | (repeat first | assumption | rfl | refine aG_n ?_ rfl rfl)) ?_
        refine wp_ialdC (pc := 36) (j := 2) dX12_sumFrom_36 (by first | rfl | assumption | exact sh_house (by omega) | exact sh_wish (by omega) | exact sh_wor (by omega) | exact sh_bar (by omega) | exact sh_term (by omega) | exact sh_sheet (by omega) | exact sh_items (by omega) | exact sh_sums (by omega)) (by decide) (by decide) ?_
        refine wp_goto (pc := 37) (tgt := 41) dX12_sumFrom_37 rfl ?_
        refine wp_iretK (pc := 41) dX12_sumFrom_41 rfl (by first | rfl | decide | assumption) ?_
        refine wp_ireturn (pc := 42) dX12_proof_42 rfl (by first | rfl | decide | assumption) ?_
        refine qEq ?_ (k' _ hI)
        exact (hR.1 2 (by omega)).1.symm
      | 3, _, 1, _ =>
        refine wp_iload_n (pc := 0) dX11_proof_0 (by first | rfl | assumption | (repeat first | assumption | rfl | refine aG_n ?_ rfl rfl)) ?_
        refine wp_iconst (pc := 1) (v := 0) dX11_proof_1 (by decide) ?_
        refine wp_bipush (pc := 2) (v := 7) dX11_proof_2 (by decide) ?_
        refine wp_cS (pc := 4) dX11_proof_4 lk_11_112 rfl rfl rfl (c_X11_isWithin (fun _ => aK_i ?_) (fun q => absurd c1 q))
        refine wp_if_eq (pc := 7) (tgt := 19) dX11_proof_7 rfl (fun q => absurd q (by decide)) (fun _ => ?_)
        refine wp_iload_n (pc := 10) dX11_proof_10 (by first | rfl | assumption | (repeat first | assumption | rfl | refine aG_n ?_ rfl rfl)) ?_
        refine wp_iconst (pc := 11) (v := 0) dX11_proof_11 (by decide) ?_
        refine wp_iconst (pc := 12) (v := 2) dX11_proof_12 (by decide) ?_
        refine wp_cS (pc := 13) dX11_proof_13 lk_11_112 rfl rfl rfl (c_X11_isWithin (fun _ => aK_i ?_) (fun q => absurd c2 q))
        refine wp_if_ne (pc := 16) (tgt := 21) dX11_proof_16 rfl (fun _ => ?_) (fun q => absurd q (by decide))
        refine wp_aload_n (pc := 21) dX11_proof_21 (by first | rfl | assumption | (repeat first | assumption | rfl | refine aG_n ?_ rfl rfl)) ?_
        refine wp_getR (pc := 22) dX11_proof_22 fl_11_60 (by first | rfl | assumption | exact sh_house (by omega) | exact sh_wish (by omega) | exact sh_wor (by omega) | exact sh_bar (by omega) | exact sh_term (by omega) | exact sh_sheet (by omega) | exact sh_items (by omega) | exact sh_sums (by omega)) rfl ?_
        refine wp_iload_n (pc := 25) dX11_proof_25 (by first | rfl | assumption | (repeat first | assumption | rfl | refine aG_n ?_ rfl rfl)) ?_
        refine wp_iload_n (pc := 26) dX11_proof_26 (by first | rfl | assumption | (repeat first | assumption | rfl | refine aG_n ?_ rfl rfl)) ?_
        refine wp_cV (pc := 27) dX11_proof_27 lk_11_352 rfl (by decide) rfl (by first | rfl | assumption | exact sh_house (by omega) | exact sh_wish (by omega) | exact sh_wor (by omega) | exact sh_bar (by omega) | exact sh_term (by omega) | exact sh_sheet (by omega) | exact sh_items (by omega) | exact sh_sums (by omega)) rfl rfl ?_
        refine wp_aload_n (pc := 0) dX5_beside_0 (by first | rfl | assumption | (repeat first | assumption | rfl | refine aG_n ?_ rfl rfl)) ?_
        refine wp_getR (pc := 1) dX5_beside_1 fl_5_9 (by first | rfl | assumption | exact sh_house (by omega) | exact sh_wish (by omega) | exact sh_wor (by omega) | exact sh_bar (by omega) | exact sh_term (by omega) | exact sh_sheet (by omega) | exact sh_items (by omega) | exact sh_sums (by omega)) rfl ?_
        refine wp_bipush (pc := 4) (v := 8) dX5_beside_4 (by decide) ?_
        refine wp_iload_n (pc := 6) dX5_beside_6 (by first | rfl | assumption | (repeat first | assumption | rfl | refine aG_n ?_ rfl rfl)) ?_
        refine wp_iadd (pc := 7) dX5_beside_7 ?_
        refine wp_iload_n (pc := 8) dX5_beside_8 (by first | rfl | assumption | (repeat first | assumption | rfl | refine aG_n ?_ rfl rfl)) ?_
        refine wp_ishr (pc := 9) dX5_beside_9 ?_
        refine wp_iconst (pc := 10) (v := 1) dX5_beside_10 (by decide) ?_
        refine wp_ixor (pc := 11) dX5_beside_11 ?_
        refine wp_ialdC (pc := 12) (j := 4) dX5_beside_12 (by first | rfl | assumption | exact sh_house (by omega) | exact sh_wish (by omega) | exact sh_wor (by omega) | exact sh_bar (by omega) | exact sh_term (by omega) | exact sh_sheet (by omega) | exact sh_items (by omega) | exact sh_sums (by omega)) (by decide) (by decide) ?_
        refine wp_iretK (pc := 13) dX5_beside_13 rfl (by first | rfl | decide | assumption) ?_
        refine wp_ireturn (pc := 30) dX11_proof_30 rfl (by first | rfl | decide | assumption) ?_
        refine k _ _ (fun Q' k' => ?_)
        refine wp_iload_n (pc := 0) dX12_proof_0 (by first | rfl | assumption | (repeat first | assumption | rfl | refine aG_n ?_ rfl rfl)) ?_
        refine wp_i2l (pc := 1) dX12_proof_1 ?_
        refine wp_lconst (pc := 2) (v := 0) dX12_proof_2 (by decide) ?_
        refine wp_ldc2 (pc := 3) dX12_proof_3 cl_12_347 ?_
        refine wp_cS (pc := 6) dX12_proof_6 lk_12_133 rfl rfl rfl (c_X12_in (fun _ => aK_i ?_) (fun q => absurd (by rw [w_int]; exact c1) q))
        refine wp_if_eq (pc := 9) (tgt := 24) dX12_proof_9 rfl (fun q => absurd q (by decide)) (fun _ => ?_)
        refine wp_iload_n (pc := 12) dX12_proof_12 (by first | rfl | assumption | (repeat first | assumption | rfl | refine aG_n ?_ rfl rfl)) ?_
        refine wp_i2l (pc := 13) dX12_proof_13 ?_
        refine wp_lconst (pc := 14) (v := 0) dX12_proof_14 (by decide) ?_
        refine wp_ldc2 (pc := 15) dX12_proof_15 cl_12_212 ?_
        refine wp_cS (pc := 18) dX12_proof_18 lk_12_133 rfl rfl rfl (c_X12_in (fun _ => aK_i ?_) (fun q => absurd (by rw [w_int]; exact c2) q))
        refine wp_if_ne (pc := 21) (tgt := 26) dX12_proof_21 rfl (fun _ => ?_) (fun q => absurd q (by decide))
        refine wp_iconst (pc := 26) (v := 1) dX12_proof_26 (by decide) ?_
        refine wp_iload_n (pc := 27) dX12_proof_27 (by first | rfl | assumption | (repeat first | assumption | rfl | refine aG_n ?_ rfl rfl)) ?_
        refine wp_ishl (pc := 28) dX12_proof_28 ?_
        refine wp_istore_n (pc := 29) dX12_proof_29 (by decide) ?_
        refine wp_aload_n (pc := 30) dX12_proof_30 (by first | rfl | assumption | (repeat first | assumption | rfl | refine aG_n ?_ rfl rfl)) ?_
        refine wp_iload_n (pc := 31) dX12_proof_31 (by first | rfl | assumption | (repeat first | assumption | rfl | refine aG_n ?_ rfl rfl)) ?_
        refine wp_iload_n (pc := 32) dX12_proof_32 (by first | rfl | assumption | (repeat first | assumption | rfl | refine aG_n ?_ rfl rfl)) ?_
        refine wp_idiv (pc := 33) dX12_proof_33 (by decide) ?_
        refine wp_iconst (pc := 34) (v := 1) dX12_proof_34 (by decide) ?_
        refine wp_ixor (pc := 35) dX12_proof_35 ?_
        refine wp_iload_n (pc := 36) dX12_proof_36 (by first | rfl | assumption | (repeat first | assumption | rfl | refine aG_n ?_ rfl rfl)) ?_
        refine wp_imul (pc := 37) dX12_proof_37 ?_
        refine wp_iload_n (pc := 38) dX12_proof_38 (by first | rfl | assumption | (repeat first | assumption | rfl | refine aG_n ?_ rfl rfl)) ?_
        refine wp_cV (pc := 39) dX12_proof_39 lk_12_349 rfl (by decide) rfl (by first | rfl | assumption | exact sh_house (by omega) | exact sh_wish (by omega) | exact sh_wor (by omega) | exact sh_bar (by omega) | exact sh_term (by omega) | exact sh_sheet (by omega) | exact sh_items (by omega) | exact sh_sums (by omega)) rfl rfl ?_
        refine wp_aload_n (pc := 0) dX12_sumFrom_0 (by first | rfl | assumption | (repeat first | assumption | rfl | refine aG_n ?_ rfl rfl)) ?_
        refine wp_getR (pc := 1) dX12_sumFrom_1 fl_12_119 (by first | rfl | assumption | exact sh_house (by omega) | exact sh_wish (by omega) | exact sh_wor (by omega) | exact sh_bar (by omega) | exact sh_term (by omega) | exact sh_sheet (by omega) | exact sh_items (by omega) | exact sh_sums (by omega)) rfl ?_
        refine wp_iload_n (pc := 4) dX12_sumFrom_4 (by first | rfl | assumption | (repeat first | assumption | rfl | refine aG_n ?_ rfl rfl)) ?_
        refine wp_ialdC (pc := 5) (j := 0) dX12_sumFrom_5 (by first | rfl | assumption | exact sh_house (by omega) | exact sh_wish (by omega) | exact sh_wor (by omega) | exact sh_bar (by omega) | exact sh_term (by omega) | exact sh_sheet (by omega) | exact sh_items (by omega) | exact sh_sums (by omega)) (by decide) (by decide) ?_
        refine wp_aload_n (pc := 6) dX12_sumFrom_6 (by first | rfl | assumption | (repeat first | assumption | rfl | refine aG_n ?_ rfl rfl)) ?_
        refine wp_getR (pc := 7) dX12_sumFrom_7 fl_12_119 (by first | rfl | assumption | exact sh_house (by omega) | exact sh_wish (by omega) | exact sh_wor (by omega) | exact sh_bar (by omega) | exact sh_term (by omega) | exact sh_sheet (by omega) | exact sh_items (by omega) | exact sh_sums (by omega)) rfl ?_
        refine wp_iload_n (pc := 10) dX12_sumFrom_10 (by first | rfl | assumption | (repeat first | assumption | rfl | refine aG_n ?_ rfl rfl)) ?_
        refine wp_iconst (pc := 11) (v := 1) dX12_sumFrom_11 (by decide) ?_
        refine wp_iadd (pc := 12) dX12_sumFrom_12 ?_
        refine wp_bipush (pc := 13) (v := 8) dX12_sumFrom_13 (by decide) ?_
        refine wp_irem (pc := 15) dX12_sumFrom_15 (by decide) ?_
        refine wp_ialdC (pc := 16) (j := 1) dX12_sumFrom_16 (by first | rfl | assumption | exact sh_house (by omega) | exact sh_wish (by omega) | exact sh_wor (by omega) | exact sh_bar (by omega) | exact sh_term (by omega) | exact sh_sheet (by omega) | exact sh_items (by omega) | exact sh_sums (by omega)) (by decide) (by decide) ?_
        refine wp_cS (pc := 17) dX12_sumFrom_17 lk_12_344 rfl rfl rfl (c_X12_sumOf (aK_i ?_))
        refine wp_istore_n (pc := 20) dX12_sumFrom_20 (by decide) ?_
        refine wp_iload_n (pc := 21) dX12_sumFrom_21 (by first | rfl | assumption | (repeat first | assumption | rfl | refine aG_n ?_ rfl rfl)) ?_
        refine wp_iconst (pc := 22) (v := 4) dX12_sumFrom_22 (by decide) ?_
        refine wp_icmp_ge (pc := 23) (tgt := 42) dX12_sumFrom_23 rfl (fun q => absurd q (by decide)) (fun _ => ?_)
        refine wp_iload_n (pc := 26) dX12_sumFrom_26 (by first | rfl | assumption | (repeat first | assumption | rfl | refine aG_n ?_ rfl rfl)) ?_
        refine wp_iconst (pc := 27) (v := 1) dX12_sumFrom_27 (by decide) ?_
        refine wp_icmp_ne (pc := 28) (tgt := 40) dX12_sumFrom_28 rfl (fun _ => ?_) (fun q => absurd q (by decide))
        refine wp_iload_n (pc := 40) dX12_sumFrom_40 (by first | rfl | assumption | (repeat first | assumption | rfl | refine aG_n ?_ rfl rfl)) ?_
        refine wp_iretK (pc := 41) dX12_sumFrom_41 rfl (by first | rfl | decide | assumption) ?_
        refine wp_ireturn (pc := 42) dX12_proof_42 rfl (by first | rfl | decide | assumption) ?_
        refine qEq ?_ (k' _ hI)
        rw [hR.2 4 (by omega) (by omega)]
        rw [← (hR.1 0 (by omega)).1, ← (hR.1 1 (by omega)).1]
      | 3, _, 2, _ =>
        refine wp_iload_n (pc := 0) dX11_proof_0 (by first | rfl | assumption | (repeat first | assumption | rfl | refine aG_n ?_ rfl rfl)) ?_
        refine wp_iconst (pc := 1) (v := 0) dX11_proof_1 (by decide) ?_
        refine wp_bipush (pc := 2) (v := 7) dX11_proof_2 (by decide) ?_
        refine wp_cS (pc := 4) dX11_proof_4 lk_11_112 rfl rfl rfl (c_X11_isWithin (fun _ => aK_i ?_) (fun q => absurd c1 q))
        refine wp_if_eq (pc := 7) (tgt := 19) dX11_proof_7 rfl (fun q => absurd q (by decide)) (fun _ => ?_)
        refine wp_iload_n (pc := 10) dX11_proof_10 (by first | rfl | assumption | (repeat first | assumption | rfl | refine aG_n ?_ rfl rfl)) ?_
        refine wp_iconst (pc := 11) (v := 0) dX11_proof_11 (by decide) ?_
        refine wp_iconst (pc := 12) (v := 2) dX11_proof_12 (by decide) ?_
        refine wp_cS (pc := 13) dX11_proof_13 lk_11_112 rfl rfl rfl (c_X11_isWithin (fun _ => aK_i ?_) (fun q => absurd c2 q))
        refine wp_if_ne (pc := 16) (tgt := 21) dX11_proof_16 rfl (fun _ => ?_) (fun q => absurd q (by decide))
        refine wp_aload_n (pc := 21) dX11_proof_21 (by first | rfl | assumption | (repeat first | assumption | rfl | refine aG_n ?_ rfl rfl)) ?_
        refine wp_getR (pc := 22) dX11_proof_22 fl_11_60 (by first | rfl | assumption | exact sh_house (by omega) | exact sh_wish (by omega) | exact sh_wor (by omega) | exact sh_bar (by omega) | exact sh_term (by omega) | exact sh_sheet (by omega) | exact sh_items (by omega) | exact sh_sums (by omega)) rfl ?_
        refine wp_iload_n (pc := 25) dX11_proof_25 (by first | rfl | assumption | (repeat first | assumption | rfl | refine aG_n ?_ rfl rfl)) ?_
        refine wp_iload_n (pc := 26) dX11_proof_26 (by first | rfl | assumption | (repeat first | assumption | rfl | refine aG_n ?_ rfl rfl)) ?_
        refine wp_cV (pc := 27) dX11_proof_27 lk_11_352 rfl (by decide) rfl (by first | rfl | assumption | exact sh_house (by omega) | exact sh_wish (by omega) | exact sh_wor (by omega) | exact sh_bar (by omega) | exact sh_term (by omega) | exact sh_sheet (by omega) | exact sh_items (by omega) | exact sh_sums (by omega)) rfl rfl ?_
        refine wp_aload_n (pc := 0) dX5_beside_0 (by first | rfl | assumption | (repeat first | assumption | rfl | refine aG_n ?_ rfl rfl)) ?_
        refine wp_getR (pc := 1) dX5_beside_1 fl_5_9 (by first | rfl | assumption | exact sh_house (by omega) | exact sh_wish (by omega) | exact sh_wor (by omega) | exact sh_bar (by omega) | exact sh_term (by omega) | exact sh_sheet (by omega) | exact sh_items (by omega) | exact sh_sums (by omega)) rfl ?_
        refine wp_bipush (pc := 4) (v := 8) dX5_beside_4 (by decide) ?_
        refine wp_iload_n (pc := 6) dX5_beside_6 (by first | rfl | assumption | (repeat first | assumption | rfl | refine aG_n ?_ rfl rfl)) ?_
        refine wp_iadd (pc := 7) dX5_beside_7 ?_
        refine wp_iload_n (pc := 8) dX5_beside_8 (by first | rfl | assumption | (repeat first | assumption | rfl | refine aG_n ?_ rfl rfl)) ?_
        refine wp_ishr (pc := 9) dX5_beside_9 ?_
        refine wp_iconst (pc := 10) (v := 1) dX5_beside_10 (by decide) ?_
        refine wp_ixor (pc := 11) dX5_beside_11 ?_
        refine wp_ialdC (pc := 12) (j := 3) dX5_beside_12 (by first | rfl | assumption | exact sh_house (by omega) | exact sh_wish (by omega) | exact sh_wor (by omega) | exact sh_bar (by omega) | exact sh_term (by omega) | exact sh_sheet (by omega) | exact sh_items (by omega) | exact sh_sums (by omega)) (by decide) (by decide) ?_
        refine wp_iretK (pc := 13) dX5_beside_13 rfl (by first | rfl | decide | assumption) ?_
        refine wp_ireturn (pc := 30) dX11_proof_30 rfl (by first | rfl | decide | assumption) ?_
        refine k _ _ (fun Q' k' => ?_)
        refine wp_iload_n (pc := 0) dX12_proof_0 (by first | rfl | assumption | (repeat first | assumption | rfl | refine aG_n ?_ rfl rfl)) ?_
        refine wp_i2l (pc := 1) dX12_proof_1 ?_
        refine wp_lconst (pc := 2) (v := 0) dX12_proof_2 (by decide) ?_
        refine wp_ldc2 (pc := 3) dX12_proof_3 cl_12_347 ?_
        refine wp_cS (pc := 6) dX12_proof_6 lk_12_133 rfl rfl rfl (c_X12_in (fun _ => aK_i ?_) (fun q => absurd (by rw [w_int]; exact c1) q))
        refine wp_if_eq (pc := 9) (tgt := 24) dX12_proof_9 rfl (fun q => absurd q (by decide)) (fun _ => ?_)
        refine wp_iload_n (pc := 12) dX12_proof_12 (by first | rfl | assumption | (repeat first | assumption | rfl | refine aG_n ?_ rfl rfl)) ?_
        refine wp_i2l (pc := 13) dX12_proof_13 ?_
        refine wp_lconst (pc := 14) (v := 0) dX12_proof_14 (by decide) ?_
        refine wp_ldc2 (pc := 15) dX12_proof_15 cl_12_212 ?_
        refine wp_cS (pc := 18) dX12_proof_18 lk_12_133 rfl rfl rfl (c_X12_in (fun _ => aK_i ?_) (fun q => absurd (by rw [w_int]; exact c2) q))
        refine wp_if_ne (pc := 21) (tgt := 26) dX12_proof_21 rfl (fun _ => ?_) (fun q => absurd q (by decide))
        refine wp_iconst (pc := 26) (v := 1) dX12_proof_26 (by decide) ?_
        refine wp_iload_n (pc := 27) dX12_proof_27 (by first | rfl | assumption | (repeat first | assumption | rfl | refine aG_n ?_ rfl rfl)) ?_
        refine wp_ishl (pc := 28) dX12_proof_28 ?_
        refine wp_istore_n (pc := 29) dX12_proof_29 (by decide) ?_
        refine wp_aload_n (pc := 30) dX12_proof_30 (by first | rfl | assumption | (repeat first | assumption | rfl | refine aG_n ?_ rfl rfl)) ?_
        refine wp_iload_n (pc := 31) dX12_proof_31 (by first | rfl | assumption | (repeat first | assumption | rfl | refine aG_n ?_ rfl rfl)) ?_
        refine wp_iload_n (pc := 32) dX12_proof_32 (by first | rfl | assumption | (repeat first | assumption | rfl | refine aG_n ?_ rfl rfl)) ?_
        refine wp_idiv (pc := 33) dX12_proof_33 (by decide) ?_
        refine wp_iconst (pc := 34) (v := 1) dX12_proof_34 (by decide) ?_
        refine wp_ixor (pc := 35) dX12_proof_35 ?_
        refine wp_iload_n (pc := 36) dX12_proof_36 (by first | rfl | assumption | (repeat first | assumption | rfl | refine aG_n ?_ rfl rfl)) ?_
        refine wp_imul (pc := 37) dX12_proof_37 ?_
        refine wp_iload_n (pc := 38) dX12_proof_38 (by first | rfl | assumption | (repeat first | assumption | rfl | refine aG_n ?_ rfl rfl)) ?_
        refine wp_cV (pc := 39) dX12_proof_39 lk_12_349 rfl (by decide) rfl (by first | rfl | assumption | exact sh_house (by omega) | exact sh_wish (by omega) | exact sh_wor (by omega) | exact sh_bar (by omega) | exact sh_term (by omega) | exact sh_sheet (by omega) | exact sh_items (by omega) | exact sh_sums (by omega)) rfl rfl ?_
        refine wp_aload_n (pc := 0) dX12_sumFrom_0 (by first | rfl | assumption | (repeat first | assumption | rfl | refine aG_n ?_ rfl rfl)) ?_
        refine wp_getR (pc := 1) dX12_sumFrom_1 fl_12_119 (by first | rfl | assumption | exact sh_house (by omega) | exact sh_wish (by omega) | exact sh_wor (by omega) | exact sh_bar (by omega) | exact sh_term (by omega) | exact sh_sheet (by omega) | exact sh_items (by omega) | exact sh_sums (by omega)) rfl ?_
        refine wp_iload_n (pc := 4) dX12_sumFrom_4 (by first | rfl | assumption | (repeat first | assumption | rfl | refine aG_n ?_ rfl rfl)) ?_
        refine wp_ialdC (pc := 5) (j := 4) dX12_sumFrom_5 (by first | rfl | assumption | exact sh_house (by omega) | exact sh_wish (by omega) | exact sh_wor (by omega) | exact sh_bar (by omega) | exact sh_term (by omega) | exact sh_sheet (by omega) | exact sh_items (by omega) | exact sh_sums (by omega)) (by decide) (by decide) ?_
        refine wp_aload_n (pc := 6) dX12_sumFrom_6 (by first | rfl | assumption | (repeat first | assumption | rfl | refine aG_n ?_ rfl rfl)) ?_
        refine wp_getR (pc := 7) dX12_sumFrom_7 fl_12_119 (by first | rfl | assumption | exact sh_house (by omega) | exact sh_wish (by omega) | exact sh_wor (by omega) | exact sh_bar (by omega) | exact sh_term (by omega) | exact sh_sheet (by omega) | exact sh_items (by omega) | exact sh_sums (by omega)) rfl ?_
        refine wp_iload_n (pc := 10) dX12_sumFrom_10 (by first | rfl | assumption | (repeat first | assumption | rfl | refine aG_n ?_ rfl rfl)) ?_
        refine wp_iconst (pc := 11) (v := 1) dX12_sumFrom_11 (by decide) ?_
        refine wp_iadd (pc := 12) dX12_sumFrom_12 ?_
        refine wp_bipush (pc := 13) (v := 8) dX12_sumFrom_13 (by decide) ?_
        refine wp_irem (pc := 15) dX12_sumFrom_15 (by decide) ?_
        refine wp_ialdC (pc := 16) (j := 5) dX12_sumFrom_16 (by first | rfl | assumption | exact sh_house (by omega) | exact sh_wish (by omega) | exact sh_wor (by omega) | exact sh_bar (by omega) | exact sh_term (by omega) | exact sh_sheet (by omega) | exact sh_items (by omega) | exact sh_sums (by omega)) (by decide) (by decide) ?_
        refine wp_cS (pc := 17) dX12_sumFrom_17 lk_12_344 rfl rfl rfl (c_X12_sumOf (aK_i ?_))
        refine wp_istore_n (pc := 20) dX12_sumFrom_20 (by decide) ?_
        refine wp_iload_n (pc := 21) dX12_sumFrom_21 (by first | rfl | assumption | (repeat first | assumption | rfl | refine aG_n ?_ rfl rfl)) ?_
        refine wp_iconst (pc := 22) (v := 4) dX12_sumFrom_22 (by decide) ?_
        refine wp_icmp_ge (pc := 23) (tgt := 42) dX12_sumFrom_23 rfl (fun _ => ?_) (fun q => absurd q (by decide))
        refine wp_iload_n (pc := 42) dX12_sumFrom_42 (by first | rfl | assumption | (repeat first | assumption | rfl | refine aG_n ?_ rfl rfl)) ?_
        refine wp_aload_n (pc := 43) dX12_sumFrom_43 (by first | rfl | assumption | (repeat first | assumption | rfl | refine aG_n ?_ rfl rfl)) ?_
        refine wp_getR (pc := 44) dX12_sumFrom_44 fl_12_119 (by first | rfl | assumption | exact sh_house (by omega) | exact sh_wish (by omega) | exact sh_wor (by omega) | exact sh_bar (by omega) | exact sh_term (by omega) | exact sh_sheet (by omega) | exact sh_items (by omega) | exact sh_sums (by omega)) rfl ?_
        refine wp_iload_n (pc := 47) dX12_sumFrom_47 (by first | rfl | assumption | (repeat first | assumption | rfl | refine aG_n ?_ rfl rfl)) ?_
        refine wp_iconst (pc := 48) (v := 2) dX12_sumFrom_48 (by decide) ?_
        refine wp_iadd (pc := 49) dX12_sumFrom_49 ?_
        refine wp_ialdC (pc := 50) (j := 6) dX12_sumFrom_50 (by first | rfl | assumption | exact sh_house (by omega) | exact sh_wish (by omega) | exact sh_wor (by omega) | exact sh_bar (by omega) | exact sh_term (by omega) | exact sh_sheet (by omega) | exact sh_items (by omega) | exact sh_sums (by omega)) (by decide) (by decide) ?_
        refine wp_aload_n (pc := 51) dX12_sumFrom_51 (by first | rfl | assumption | (repeat first | assumption | rfl | refine aG_n ?_ rfl rfl)) ?_
        refine wp_getR (pc := 52) dX12_sumFrom_52 fl_12_119 (by first | rfl | assumption | exact sh_house (by omega) | exact sh_wish (by omega) | exact sh_wor (by omega) | exact sh_bar (by omega) | exact sh_term (by omega) | exact sh_sheet (by omega) | exact sh_items (by omega) | exact sh_sums (by omega)) rfl ?_
        refine wp_iload_n (pc := 55) dX12_sumFrom_55 (by first | rfl | assumption | (repeat first | assumption | rfl | refine aG_n ?_ rfl rfl)) ?_
        refine wp_iconst (pc := 56) (v := 3) dX12_sumFrom_56 (by decide) ?_
        refine wp_iadd (pc := 57) dX12_sumFrom_57 ?_
        refine wp_ialdC (pc := 58) (j := 7) dX12_sumFrom_58 (by first | rfl | assumption | exact sh_house (by omega) | exact sh_wish (by omega) | exact sh_wor (by omega) | exact sh_bar (by omega) | exact sh_term (by omega) | exact sh_sheet (by omega) | exact sh_items (by omega) | exact sh_sums (by omega)) (by decide) (by decide) ?_
        refine wp_cS (pc := 59) dX12_sumFrom_59 lk_12_344 rfl rfl rfl (c_X12_sumOf (aK_i ?_))
        refine wp_cS (pc := 62) dX12_sumFrom_62 lk_12_344 rfl rfl rfl (c_X12_sumOf (aK_i ?_))
        refine wp_istore (pc := 65) dX12_sumFrom_65 (by decide) ?_
        refine wp_iload_n (pc := 67) dX12_sumFrom_67 (by first | rfl | assumption | (repeat first | assumption | rfl | refine aG_n ?_ rfl rfl)) ?_
        refine wp_iconst (pc := 68) (v := 4) dX12_sumFrom_68 (by decide) ?_
        refine wp_icmp_ne (pc := 69) (tgt := 75) dX12_sumFrom_69 rfl (fun q => absurd q (by decide)) (fun _ => ?_)
        refine wp_iload (pc := 72) dX12_sumFrom_72 (by first | rfl | assumption | (repeat first | assumption | rfl | refine aG_n ?_ rfl rfl)) ?_
        refine wp_iretK (pc := 74) dX12_sumFrom_74 rfl (by first | rfl | decide | assumption) ?_
        refine wp_ireturn (pc := 42) dX12_proof_42 rfl (by first | rfl | decide | assumption) ?_
        refine qEq ?_ (k' _ hI)
        rw [hR.2 3 (by omega) (by omega), hR.2 (2 * 3) (by omega) (by omega), hR.2 (2 * 3 + 1) (by omega) (by omega)]
        rw [← (hR.1 4 (by omega)).1, ← (hR.1 5 (by omega)).1, ← (hR.1 6 (by omega)).1, ← (hR.1 7 (by omega)).1]
      | 4, _, 0, _ =>
        refine wp_iload_n (pc := 0) dX11_proof_0 (by first | rfl | assumption | (repeat first | assumption | rfl | refine aG_n ?_ rfl rfl)) ?_
        refine wp_iconst (pc := 1) (v := 0) dX11_proof_1 (by decide) ?_
        refine wp_bipush (pc := 2) (v := 7) dX11_proof_2 (by decide) ?_
        refine wp_cS (pc := 4) dX11_proof_4 lk_11_112 rfl rfl rfl (c_X11_isWithin (fun _ => aK_i ?_) (fun q => absurd c1 q))
        refine wp_if_eq (pc := 7) (tgt := 19) dX11_proof_7 rfl (fun q => absurd q (by decide)) (fun _ => ?_)
        refine wp_iload_n (pc := 10) dX11_proof_10 (by first | rfl | assumption | (repeat first | assumption | rfl | refine aG_n ?_ rfl rfl)) ?_
        refine wp_iconst (pc := 11) (v := 0) dX11_proof_11 (by decide) ?_
        refine wp_iconst (pc := 12) (v := 2) dX11_proof_12 (by decide) ?_
        refine wp_cS (pc := 13) dX11_proof_13 lk_11_112 rfl rfl rfl (c_X11_isWithin (fun _ => aK_i ?_) (fun q => absurd c2 q))
        refine wp_if_ne (pc := 16) (tgt := 21) dX11_proof_16 rfl (fun _ => ?_) (fun q => absurd q (by decide))
        refine wp_aload_n (pc := 21) dX11_proof_21 (by first | rfl | assumption | (repeat first | assumption | rfl | refine aG_n ?_ rfl rfl)) ?_
        refine wp_getR (pc := 22) dX11_proof_22 fl_11_60 (by first | rfl | assumption | exact sh_house (by omega) | exact sh_wish (by omega) | exact sh_wor (by omega) | exact sh_bar (by omega) | exact sh_term (by omega) | exact sh_sheet (by omega) | exact sh_items (by omega) | exact sh_sums (by omega)) rfl ?_
        refine wp_iload_n (pc := 25) dX11_proof_25 (by first | rfl | assumption | (repeat first | assumption | rfl | refine aG_n ?_ rfl rfl)) ?_
        refine wp_iload_n (pc := 26) dX11_proof_26 (by first | rfl | assumption | (repeat first | assumption | rfl | refine aG_n ?_ rfl rfl)) ?_
        refine wp_cV (pc := 27) dX11_proof_27 lk_11_352 rfl (by decide) rfl (by first | rfl | assumption | exact sh_house (by omega) | exact sh_wish (by omega) | exact sh_wor (by omega) | exact sh_bar (by omega) | exact sh_term (by omega) | exact sh_sheet (by omega) | exact sh_items (by omega) | exact sh_sums (by omega)) rfl rfl ?_
        refine wp_aload_n (pc := 0) dX5_beside_0 (by first | rfl | assumption | (repeat first | assumption | rfl | refine aG_n ?_ rfl rfl)) ?_
        refine wp_getR (pc := 1) dX5_beside_1 fl_5_9 (by first | rfl | assumption | exact sh_house (by omega) | exact sh_wish (by omega) | exact sh_wor (by omega) | exact sh_bar (by omega) | exact sh_term (by omega) | exact sh_sheet (by omega) | exact sh_items (by omega) | exact sh_sums (by omega)) rfl ?_
        refine wp_bipush (pc := 4) (v := 8) dX5_beside_4 (by decide) ?_
        refine wp_iload_n (pc := 6) dX5_beside_6 (by first | rfl | assumption | (repeat first | assumption | rfl | refine aG_n ?_ rfl rfl)) ?_
        refine wp_iadd (pc := 7) dX5_beside_7 ?_
        refine wp_iload_n (pc := 8) dX5_beside_8 (by first | rfl | assumption | (repeat first | assumption | rfl | refine aG_n ?_ rfl rfl)) ?_
        refine wp_ishr (pc := 9) dX5_beside_9 ?_
        refine wp_iconst (pc := 10) (v := 1) dX5_beside_10 (by decide) ?_
        refine wp_ixor (pc := 11) dX5_beside_11 ?_
        refine wp_ialdC (pc := 12) (j := 13) dX5_beside_12 (by first | rfl | assumption | exact sh_house (by omega) | exact sh_wish (by omega) | exact sh_wor (by omega) | exact sh_bar (by omega) | exact sh_term (by omega) | exact sh_sheet (by omega) | exact sh_items (by omega) | exact sh_sums (by omega)) (by decide) (by decide) ?_
        refine wp_iretK (pc := 13) dX5_beside_13 rfl (by first | rfl | decide | assumption) ?_
        refine wp_ireturn (pc := 30) dX11_proof_30 rfl (by first | rfl | decide | assumption) ?_
        refine k _ _ (fun Q' k' => ?_)
        refine wp_iload_n (pc := 0) dX12_proof_0 (by first | rfl | assumption | (repeat first | assumption | rfl | refine aG_n ?_ rfl rfl)) ?_
        refine wp_i2l (pc := 1) dX12_proof_1 ?_
        refine wp_lconst (pc := 2) (v := 0) dX12_proof_2 (by decide) ?_
        refine wp_ldc2 (pc := 3) dX12_proof_3 cl_12_347 ?_
        refine wp_cS (pc := 6) dX12_proof_6 lk_12_133 rfl rfl rfl (c_X12_in (fun _ => aK_i ?_) (fun q => absurd (by rw [w_int]; exact c1) q))
        refine wp_if_eq (pc := 9) (tgt := 24) dX12_proof_9 rfl (fun q => absurd q (by decide)) (fun _ => ?_)
        refine wp_iload_n (pc := 12) dX12_proof_12 (by first | rfl | assumption | (repeat first | assumption | rfl | refine aG_n ?_ rfl rfl)) ?_
        refine wp_i2l (pc := 13) dX12_proof_13 ?_
        refine wp_lconst (pc := 14) (v := 0) dX12_proof_14 (by decide) ?_
        refine wp_ldc2 (pc := 15) dX12_proof_15 cl_12_212 ?_
        refine wp_cS (pc := 18) dX12_proof_18 lk_12_133 rfl rfl rfl (c_X12_in (fun _ => aK_i ?_) (fun q => absurd (by rw [w_int]; exact c2) q))
        refine wp_if_ne (pc := 21) (tgt := 26) dX12_proof_21 rfl (fun _ => ?_) (fun q => absurd q (by decide))
        refine wp_iconst (pc := 26) (v := 1) dX12_proof_26 (by decide) ?_
        refine wp_iload_n (pc := 27) dX12_proof_27 (by first | rfl | assumption | (repeat first | assumption | rfl | refine aG_n ?_ rfl rfl)) ?_
        refine wp_ishl (pc := 28) dX12_proof_28 ?_
        refine wp_istore_n (pc := 29) dX12_proof_29 (by decide) ?_
        refine wp_aload_n (pc := 30) dX12_proof_30 (by first | rfl | assumption | (repeat first | assumption | rfl | refine aG_n ?_ rfl rfl)) ?_
        refine wp_iload_n (pc := 31) dX12_proof_31 (by first | rfl | assumption | (repeat first | assumption | rfl | refine aG_n ?_ rfl rfl)) ?_
        refine wp_iload_n (pc := 32) dX12_proof_32 (by first | rfl | assumption | (repeat first | assumption | rfl | refine aG_n ?_ rfl rfl)) ?_
        refine wp_idiv (pc := 33) dX12_proof_33 (by decide) ?_
        refine wp_iconst (pc := 34) (v := 1) dX12_proof_34 (by decide) ?_
        refine wp_ixor (pc := 35) dX12_proof_35 ?_
        refine wp_iload_n (pc := 36) dX12_proof_36 (by first | rfl | assumption | (repeat first | assumption | rfl | refine aG_n ?_ rfl rfl)) ?_
        refine wp_imul (pc := 37) dX12_proof_37 ?_
        refine wp_iload_n (pc := 38) dX12_proof_38 (by first | rfl | assumption | (repeat first | assumption | rfl | refine aG_n ?_ rfl rfl)) ?_
        refine wp_cV (pc := 39) dX12_proof_39 lk_12_349 rfl (by decide) rfl (by first | rfl | assumption | exact sh_house (by omega) | exact sh_wish (by omega) | exact sh_wor (by omega) | exact sh_bar (by omega) | exact sh_term (by omega) | exact sh_sheet (by omega) | exact sh_items (by omega) | exact sh_sums (by omega)) rfl rfl ?_
        refine wp_aload_n (pc := 0) dX12_sumFrom_0 (by first | rfl | assumption | (repeat first | assumption | rfl | refine aG_n ?_ rfl rfl)) ?_
        refine wp_getR (pc := 1) dX12_sumFrom_1 fl_12_119 (by first | rfl | assumption | exact sh_house (by omega) | exact sh_wish (by omega) | exact sh_wor (by omega) | exact sh_bar (by omega) | exact sh_term (by omega) | exact sh_sheet (by omega) | exact sh_items (by omega) | exact sh_sums (by omega)) rfl ?_
        refine wp_iload_n (pc := 4) dX12_sumFrom_4 (by first | rfl | assumption | (repeat first | assumption | rfl | refine aG_n ?_ rfl rfl)) ?_
        refine wp_ialdC (pc := 5) (j := 5) dX12_sumFrom_5 (by first | rfl | assumption | exact sh_house (by omega) | exact sh_wish (by omega) | exact sh_wor (by omega) | exact sh_bar (by omega) | exact sh_term (by omega) | exact sh_sheet (by omega) | exact sh_items (by omega) | exact sh_sums (by omega)) (by decide) (by decide) ?_
        refine wp_aload_n (pc := 6) dX12_sumFrom_6 (by first | rfl | assumption | (repeat first | assumption | rfl | refine aG_n ?_ rfl rfl)) ?_
        refine wp_getR (pc := 7) dX12_sumFrom_7 fl_12_119 (by first | rfl | assumption | exact sh_house (by omega) | exact sh_wish (by omega) | exact sh_wor (by omega) | exact sh_bar (by omega) | exact sh_term (by omega) | exact sh_sheet (by omega) | exact sh_items (by omega) | exact sh_sums (by omega)) rfl ?_
        refine wp_iload_n (pc := 10) dX12_sumFrom_10 (by first | rfl | assumption | (repeat first | assumption | rfl | refine aG_n ?_ rfl rfl)) ?_
        refine wp_iconst (pc := 11) (v := 1) dX12_sumFrom_11 (by decide) ?_
        refine wp_iadd (pc := 12) dX12_sumFrom_12 ?_
        refine wp_bipush (pc := 13) (v := 8) dX12_sumFrom_13 (by decide) ?_
        refine wp_irem (pc := 15) dX12_sumFrom_15 (by decide) ?_
        refine wp_ialdC (pc := 16) (j := 6) dX12_sumFrom_16 (by first | rfl | assumption | exact sh_house (by omega) | exact sh_wish (by omega) | exact sh_wor (by omega) | exact sh_bar (by omega) | exact sh_term (by omega) | exact sh_sheet (by omega) | exact sh_items (by omega) | exact sh_sums (by omega)) (by decide) (by decide) ?_
        refine wp_cS (pc := 17) dX12_sumFrom_17 lk_12_344 rfl rfl rfl (c_X12_sumOf (aK_i ?_))
        refine wp_istore_n (pc := 20) dX12_sumFrom_20 (by decide) ?_
        refine wp_iload_n (pc := 21) dX12_sumFrom_21 (by first | rfl | assumption | (repeat first | assumption | rfl | refine aG_n ?_ rfl rfl)) ?_
        refine wp_iconst (pc := 22) (v := 4) dX12_sumFrom_22 (by decide) ?_
        refine wp_icmp_ge (pc := 23) (tgt := 42) dX12_sumFrom_23 rfl (fun q => absurd q (by decide)) (fun _ => ?_)
        refine wp_iload_n (pc := 26) dX12_sumFrom_26 (by first | rfl | assumption | (repeat first | assumption | rfl | refine aG_n ?_ rfl rfl)) ?_
        refine wp_iconst (pc := 27) (v := 1) dX12_sumFrom_27 (by decide) ?_
        refine wp_icmp_ne (pc := 28) (tgt := 40) dX12_sumFrom_28 rfl (fun q => absurd q (by decide)) (fun _ => ?_)
        refine wp_aload_n (pc := 31) dX12_sumFrom_31 (by first | rfl | assumption | (repeat first | assumption | rfl | refine aG_n ?_ rfl rfl)) ?_
        refine wp_getR (pc := 32) dX12_sumFrom_32 fl_12_119 (by first | rfl | assumption | exact sh_house (by omega) | exact sh_wish (by omega) | exact sh_wor (by omega) | exact sh_bar (by omega) | exact sh_term (by omega) | exact sh_sheet (by omega) | exact sh_items (by omega) | exact sh_sums (by omega)) rfl ?_
        refine wp_iload_n (pc := 35) dX12_sumFrom_35 (by first | rfl | assumption | (repeat first | assumption | rfl | refine aG_n ?_ rfl rfl)) ?_
        refine wp_ialdC (pc := 36) (j := 5) dX12_sumFrom_36 (by first | rfl | assumption | exact sh_house (by omega) | exact sh_wish (by omega) | exact sh_wor (by omega) | exact sh_bar (by omega) | exact sh_term (by omega) | exact sh_sheet (by omega) | exact sh_items (by omega) | exact sh_sums (by omega)) (by decide) (by decide) ?_
        refine wp_goto (pc := 37) (tgt := 41) dX12_sumFrom_37 rfl ?_
        refine wp_iretK (pc := 41) dX12_sumFrom_41 rfl (by first | rfl | decide | assumption) ?_
        refine wp_ireturn (pc := 42) dX12_proof_42 rfl (by first | rfl | decide | assumption) ?_
        refine qEq ?_ (k' _ hI)
        exact (hR.1 5 (by omega)).1.symm
      | 4, _, 1, _ =>
        refine wp_iload_n (pc := 0) dX11_proof_0 (by first | rfl | assumption | (repeat first | assumption | rfl | refine aG_n ?_ rfl rfl)) ?_
        refine wp_iconst (pc := 1) (v := 0) dX11_proof_1 (by decide) ?_
        refine wp_bipush (pc := 2) (v := 7) dX11_proof_2 (by decide) ?_
        refine wp_cS (pc := 4) dX11_proof_4 lk_11_112 rfl rfl rfl (c_X11_isWithin (fun _ => aK_i ?_) (fun q => absurd c1 q))
        refine wp_if_eq (pc := 7) (tgt := 19) dX11_proof_7 rfl (fun q => absurd q (by decide)) (fun _ => ?_)
        refine wp_iload_n (pc := 10) dX11_proof_10 (by first | rfl | assumption | (repeat first | assumption | rfl | refine aG_n ?_ rfl rfl)) ?_
        refine wp_iconst (pc := 11) (v := 0) dX11_proof_11 (by decide) ?_
        refine wp_iconst (pc := 12) (v := 2) dX11_proof_12 (by decide) ?_
        refine wp_cS (pc := 13) dX11_proof_13 lk_11_112 rfl rfl rfl (c_X11_isWithin (fun _ => aK_i ?_) (fun q => absurd c2 q))
        refine wp_if_ne (pc := 16) (tgt := 21) dX11_proof_16 rfl (fun _ => ?_) (fun q => absurd q (by decide))
        refine wp_aload_n (pc := 21) dX11_proof_21 (by first | rfl | assumption | (repeat first | assumption | rfl | refine aG_n ?_ rfl rfl)) ?_
        refine wp_getR (pc := 22) dX11_proof_22 fl_11_60 (by first | rfl | assumption | exact sh_house (by omega) | exact sh_wish (by omega) | exact sh_wor (by omega) | exact sh_bar (by omega) | exact sh_term (by omega) | exact sh_sheet (by omega) | exact sh_items (by omega) | exact sh_sums (by omega)) rfl ?_
        refine wp_iload_n (pc := 25) dX11_proof_25 (by first | rfl | assumption | (repeat first | assumption | rfl | refine aG_n ?_ rfl rfl)) ?_
        refine wp_iload_n (pc := 26) dX11_proof_26 (by first | rfl | assumption | (repeat first | assumption | rfl | refine aG_n ?_ rfl rfl)) ?_
        refine wp_cV (pc := 27) dX11_proof_27 lk_11_352 rfl (by decide) rfl (by first | rfl | assumption | exact sh_house (by omega) | exact sh_wish (by omega) | exact sh_wor (by omega) | exact sh_bar (by omega) | exact sh_term (by omega) | exact sh_sheet (by omega) | exact sh_items (by omega) | exact sh_sums (by omega)) rfl rfl ?_
        refine wp_aload_n (pc := 0) dX5_beside_0 (by first | rfl | assumption | (repeat first | assumption | rfl | refine aG_n ?_ rfl rfl)) ?_
        refine wp_getR (pc := 1) dX5_beside_1 fl_5_9 (by first | rfl | assumption | exact sh_house (by omega) | exact sh_wish (by omega) | exact sh_wor (by omega) | exact sh_bar (by omega) | exact sh_term (by omega) | exact sh_sheet (by omega) | exact sh_items (by omega) | exact sh_sums (by omega)) rfl ?_
        refine wp_bipush (pc := 4) (v := 8) dX5_beside_4 (by decide) ?_
        refine wp_iload_n (pc := 6) dX5_beside_6 (by first | rfl | assumption | (repeat first | assumption | rfl | refine aG_n ?_ rfl rfl)) ?_
        refine wp_iadd (pc := 7) dX5_beside_7 ?_
        refine wp_iload_n (pc := 8) dX5_beside_8 (by first | rfl | assumption | (repeat first | assumption | rfl | refine aG_n ?_ rfl rfl)) ?_
        refine wp_ishr (pc := 9) dX5_beside_9 ?_
        refine wp_iconst (pc := 10) (v := 1) dX5_beside_10 (by decide) ?_
        refine wp_ixor (pc := 11) dX5_beside_11 ?_
        refine wp_ialdC (pc := 12) (j := 7) dX5_beside_12 (by first | rfl | assumption | exact sh_house (by omega) | exact sh_wish (by omega) | exact sh_wor (by omega) | exact sh_bar (by omega) | exact sh_term (by omega) | exact sh_sheet (by omega) | exact sh_items (by omega) | exact sh_sums (by omega)) (by decide) (by decide) ?_
        refine wp_iretK (pc := 13) dX5_beside_13 rfl (by first | rfl | decide | assumption) ?_
        refine wp_ireturn (pc := 30) dX11_proof_30 rfl (by first | rfl | decide | assumption) ?_
        refine k _ _ (fun Q' k' => ?_)
        refine wp_iload_n (pc := 0) dX12_proof_0 (by first | rfl | assumption | (repeat first | assumption | rfl | refine aG_n ?_ rfl rfl)) ?_
        refine wp_i2l (pc := 1) dX12_proof_1 ?_
        refine wp_lconst (pc := 2) (v := 0) dX12_proof_2 (by decide) ?_
        refine wp_ldc2 (pc := 3) dX12_proof_3 cl_12_347 ?_
        refine wp_cS (pc := 6) dX12_proof_6 lk_12_133 rfl rfl rfl (c_X12_in (fun _ => aK_i ?_) (fun q => absurd (by rw [w_int]; exact c1) q))
        refine wp_if_eq (pc := 9) (tgt := 24) dX12_proof_9 rfl (fun q => absurd q (by decide)) (fun _ => ?_)
        refine wp_iload_n (pc := 12) dX12_proof_12 (by first | rfl | assumption | (repeat first | assumption | rfl | refine aG_n ?_ rfl rfl)) ?_
        refine wp_i2l (pc := 13) dX12_proof_13 ?_
        refine wp_lconst (pc := 14) (v := 0) dX12_proof_14 (by decide) ?_
        refine wp_ldc2 (pc := 15) dX12_proof_15 cl_12_212 ?_
        refine wp_cS (pc := 18) dX12_proof_18 lk_12_133 rfl rfl rfl (c_X12_in (fun _ => aK_i ?_) (fun q => absurd (by rw [w_int]; exact c2) q))
        refine wp_if_ne (pc := 21) (tgt := 26) dX12_proof_21 rfl (fun _ => ?_) (fun q => absurd q (by decide))
        refine wp_iconst (pc := 26) (v := 1) dX12_proof_26 (by decide) ?_
        refine wp_iload_n (pc := 27) dX12_proof_27 (by first | rfl | assumption | (repeat first | assumption | rfl | refine aG_n ?_ rfl rfl)) ?_
        refine wp_ishl (pc := 28) dX12_proof_28 ?_
        refine wp_istore_n (pc := 29) dX12_proof_29 (by decide) ?_
        refine wp_aload_n (pc := 30) dX12_proof_30 (by first | rfl | assumption | (repeat first | assumption | rfl | refine aG_n ?_ rfl rfl)) ?_
        refine wp_iload_n (pc := 31) dX12_proof_31 (by first | rfl | assumption | (repeat first | assumption | rfl | refine aG_n ?_ rfl rfl)) ?_
        refine wp_iload_n (pc := 32) dX12_proof_32 (by first | rfl | assumption | (repeat first | assumption | rfl | refine aG_n ?_ rfl rfl)) ?_
        refine wp_idiv (pc := 33) dX12_proof_33 (by decide) ?_
        refine wp_iconst (pc := 34) (v := 1) dX12_proof_34 (by decide) ?_
        refine wp_ixor (pc := 35) dX12_proof_35 ?_
        refine wp_iload_n (pc := 36) dX12_proof_36 (by first | rfl | assumption | (repeat first | assumption | rfl | refine aG_n ?_ rfl rfl)) ?_
        refine wp_imul (pc := 37) dX12_proof_37 ?_
        refine wp_iload_n (pc := 38) dX12_proof_38 (by first | rfl | assumption | (repeat first | assumption | rfl | refine aG_n ?_ rfl rfl)) ?_
        refine wp_cV (pc := 39) dX12_proof_39 lk_12_349 rfl (by decide) rfl (by first | rfl | assumption | exact sh_house (by omega) | exact sh_wish (by omega) | exact sh_wor (by omega) | exact sh_bar (by omega) | exact sh_term (by omega) | exact sh_sheet (by omega) | exact sh_items (by omega) | exact sh_sums (by omega)) rfl rfl ?_
        refine wp_aload_n (pc := 0) dX12_sumFrom_0 (by first | rfl | assumption | (repeat first | assumption | rfl | refine aG_n ?_ rfl rfl)) ?_
        refine wp_getR (pc := 1) dX12_sumFrom_1 fl_12_119 (by first | rfl | assumption | exact sh_house (by omega) | exact sh_wish (by omega) | exact sh_wor (by omega) | exact sh_bar (by omega) | exact sh_term (by omega) | exact sh_sheet (by omega) | exact sh_items (by omega) | exact sh_sums (by omega)) rfl ?_
        refine wp_iload_n (pc := 4) dX12_sumFrom_4 (by first | rfl | assumption | (repeat first | assumption | rfl | refine aG_n ?_ rfl rfl)) ?_
        refine wp_ialdC (pc := 5) (j := 6) dX12_sumFrom_5 (by first | rfl | assumption | exact sh_house (by omega) | exact sh_wish (by omega) | exact sh_wor (by omega) | exact sh_bar (by omega) | exact sh_term (by omega) | exact sh_sheet (by omega) | exact sh_items (by omega) | exact sh_sums (by omega)) (by decide) (by decide) ?_
        refine wp_aload_n (pc := 6) dX12_sumFrom_6 (by first | rfl | assumption | (repeat first | assumption | rfl | refine aG_n ?_ rfl rfl)) ?_
        refine wp_getR (pc := 7) dX12_sumFrom_7 fl_12_119 (by first | rfl | assumption | exact sh_house (by omega) | exact sh_wish (by omega) | exact sh_wor (by omega) | exact sh_bar (by omega) | exact sh_term (by omega) | exact sh_sheet (by omega) | exact sh_items (by omega) | exact sh_sums (by omega)) rfl ?_
        refine wp_iload_n (pc := 10) dX12_sumFrom_10 (by first | rfl | assumption | (repeat first | assumption | rfl | refine aG_n ?_ rfl rfl)) ?_
        refine wp_iconst (pc := 11) (v := 1) dX12_sumFrom_11 (by decide) ?_
        refine wp_iadd (pc := 12) dX12_sumFrom_12 ?_
        refine wp_bipush (pc := 13) (v := 8) dX12_sumFrom_13 (by decide) ?_
        refine wp_irem (pc := 15) dX12_sumFrom_15 (by decide) ?_
        refine wp_ialdC (pc := 16) (j := 7) dX12_sumFrom_16 (by first | rfl | assumption | exact sh_house (by omega) | exact sh_wish (by omega) | exact sh_wor (by omega) | exact sh_bar (by omega) | exact sh_term (by omega) | exact sh_sheet (by omega) | exact sh_items (by omega) | exact sh_sums (by omega)) (by decide) (by decide) ?_
        refine wp_cS (pc := 17) dX12_sumFrom_17 lk_12_344 rfl rfl rfl (c_X12_sumOf (aK_i ?_))
        refine wp_istore_n (pc := 20) dX12_sumFrom_20 (by decide) ?_
        refine wp_iload_n (pc := 21) dX12_sumFrom_21 (by first | rfl | assumption | (repeat first | assumption | rfl | refine aG_n ?_ rfl rfl)) ?_
        refine wp_iconst (pc := 22) (v := 4) dX12_sumFrom_22 (by decide) ?_
        refine wp_icmp_ge (pc := 23) (tgt := 42) dX12_sumFrom_23 rfl (fun q => absurd q (by decide)) (fun _ => ?_)
        refine wp_iload_n (pc := 26) dX12_sumFrom_26 (by first | rfl | assumption | (repeat first | assumption | rfl | refine aG_n ?_ rfl rfl)) ?_
        refine wp_iconst (pc := 27) (v := 1) dX12_sumFrom_27 (by decide) ?_
        refine wp_icmp_ne (pc := 28) (tgt := 40) dX12_sumFrom_28 rfl (fun _ => ?_) (fun q => absurd q (by decide))
        refine wp_iload_n (pc := 40) dX12_sumFrom_40 (by first | rfl | assumption | (repeat first | assumption | rfl | refine aG_n ?_ rfl rfl)) ?_
        refine wp_iretK (pc := 41) dX12_sumFrom_41 rfl (by first | rfl | decide | assumption) ?_
        refine wp_ireturn (pc := 42) dX12_proof_42 rfl (by first | rfl | decide | assumption) ?_
        refine qEq ?_ (k' _ hI)
        rw [hR.2 7 (by omega) (by omega)]
        rw [← (hR.1 6 (by omega)).1, ← (hR.1 7 (by omega)).1]
      | 4, _, 2, _ =>
        refine wp_iload_n (pc := 0) dX11_proof_0 (by first | rfl | assumption | (repeat first | assumption | rfl | refine aG_n ?_ rfl rfl)) ?_
        refine wp_iconst (pc := 1) (v := 0) dX11_proof_1 (by decide) ?_
        refine wp_bipush (pc := 2) (v := 7) dX11_proof_2 (by decide) ?_
        refine wp_cS (pc := 4) dX11_proof_4 lk_11_112 rfl rfl rfl (c_X11_isWithin (fun _ => aK_i ?_) (fun q => absurd c1 q))
        refine wp_if_eq (pc := 7) (tgt := 19) dX11_proof_7 rfl (fun q => absurd q (by decide)) (fun _ => ?_)
        refine wp_iload_n (pc := 10) dX11_proof_10 (by first | rfl | assumption | (repeat first | assumption | rfl | refine aG_n ?_ rfl rfl)) ?_
        refine wp_iconst (pc := 11) (v := 0) dX11_proof_11 (by decide) ?_
        refine wp_iconst (pc := 12) (v := 2) dX11_proof_12 (by decide) ?_
        refine wp_cS (pc := 13) dX11_proof_13 lk_11_112 rfl rfl rfl (c_X11_isWithin (fun _ => aK_i ?_) (fun q => absurd c2 q))
        refine wp_if_ne (pc := 16) (tgt := 21) dX11_proof_16 rfl (fun _ => ?_) (fun q => absurd q (by decide))
        refine wp_aload_n (pc := 21) dX11_proof_21 (by first | rfl | assumption | (repeat first | assumption | rfl | refine aG_n ?_ rfl rfl)) ?_
        refine wp_getR (pc := 22) dX11_proof_22 fl_11_60 (by first | rfl | assumption | exact sh_house (by omega) | exact sh_wish (by omega) | exact sh_wor (by omega) | exact sh_bar (by omega) | exact sh_term (by omega) | exact sh_sheet (by omega) | exact sh_items (by omega) | exact sh_sums (by omega)) rfl ?_
        refine wp_iload_n (pc := 25) dX11_proof_25 (by first | rfl | assumption | (repeat first | assumption | rfl | refine aG_n ?_ rfl rfl)) ?_
        refine wp_iload_n (pc := 26) dX11_proof_26 (by first | rfl | assumption | (repeat first | assumption | rfl | refine aG_n ?_ rfl rfl)) ?_
        refine wp_cV (pc := 27) dX11_proof_27 lk_11_352 rfl (by decide) rfl (by first | rfl | assumption | exact sh_house (by omega) | exact sh_wish (by omega) | exact sh_wor (by omega) | exact sh_bar (by omega) | exact sh_term (by omega) | exact sh_sheet (by omega) | exact sh_items (by omega) | exact sh_sums (by omega)) rfl rfl ?_
        refine wp_aload_n (pc := 0) dX5_beside_0 (by first | rfl | assumption | (repeat first | assumption | rfl | refine aG_n ?_ rfl rfl)) ?_
        refine wp_getR (pc := 1) dX5_beside_1 fl_5_9 (by first | rfl | assumption | exact sh_house (by omega) | exact sh_wish (by omega) | exact sh_wor (by omega) | exact sh_bar (by omega) | exact sh_term (by omega) | exact sh_sheet (by omega) | exact sh_items (by omega) | exact sh_sums (by omega)) rfl ?_
        refine wp_bipush (pc := 4) (v := 8) dX5_beside_4 (by decide) ?_
        refine wp_iload_n (pc := 6) dX5_beside_6 (by first | rfl | assumption | (repeat first | assumption | rfl | refine aG_n ?_ rfl rfl)) ?_
        refine wp_iadd (pc := 7) dX5_beside_7 ?_
        refine wp_iload_n (pc := 8) dX5_beside_8 (by first | rfl | assumption | (repeat first | assumption | rfl | refine aG_n ?_ rfl rfl)) ?_
        refine wp_ishr (pc := 9) dX5_beside_9 ?_
        refine wp_iconst (pc := 10) (v := 1) dX5_beside_10 (by decide) ?_
        refine wp_ixor (pc := 11) dX5_beside_11 ?_
        refine wp_ialdC (pc := 12) (j := 2) dX5_beside_12 (by first | rfl | assumption | exact sh_house (by omega) | exact sh_wish (by omega) | exact sh_wor (by omega) | exact sh_bar (by omega) | exact sh_term (by omega) | exact sh_sheet (by omega) | exact sh_items (by omega) | exact sh_sums (by omega)) (by decide) (by decide) ?_
        refine wp_iretK (pc := 13) dX5_beside_13 rfl (by first | rfl | decide | assumption) ?_
        refine wp_ireturn (pc := 30) dX11_proof_30 rfl (by first | rfl | decide | assumption) ?_
        refine k _ _ (fun Q' k' => ?_)
        refine wp_iload_n (pc := 0) dX12_proof_0 (by first | rfl | assumption | (repeat first | assumption | rfl | refine aG_n ?_ rfl rfl)) ?_
        refine wp_i2l (pc := 1) dX12_proof_1 ?_
        refine wp_lconst (pc := 2) (v := 0) dX12_proof_2 (by decide) ?_
        refine wp_ldc2 (pc := 3) dX12_proof_3 cl_12_347 ?_
        refine wp_cS (pc := 6) dX12_proof_6 lk_12_133 rfl rfl rfl (c_X12_in (fun _ => aK_i ?_) (fun q => absurd (by rw [w_int]; exact c1) q))
        refine wp_if_eq (pc := 9) (tgt := 24) dX12_proof_9 rfl (fun q => absurd q (by decide)) (fun _ => ?_)
        refine wp_iload_n (pc := 12) dX12_proof_12 (by first | rfl | assumption | (repeat first | assumption | rfl | refine aG_n ?_ rfl rfl)) ?_
        refine wp_i2l (pc := 13) dX12_proof_13 ?_
        refine wp_lconst (pc := 14) (v := 0) dX12_proof_14 (by decide) ?_
        refine wp_ldc2 (pc := 15) dX12_proof_15 cl_12_212 ?_
        refine wp_cS (pc := 18) dX12_proof_18 lk_12_133 rfl rfl rfl (c_X12_in (fun _ => aK_i ?_) (fun q => absurd (by rw [w_int]; exact c2) q))
        refine wp_if_ne (pc := 21) (tgt := 26) dX12_proof_21 rfl (fun _ => ?_) (fun q => absurd q (by decide))
        refine wp_iconst (pc := 26) (v := 1) dX12_proof_26 (by decide) ?_
        refine wp_iload_n (pc := 27) dX12_proof_27 (by first | rfl | assumption | (repeat first | assumption | rfl | refine aG_n ?_ rfl rfl)) ?_
        refine wp_ishl (pc := 28) dX12_proof_28 ?_
        refine wp_istore_n (pc := 29) dX12_proof_29 (by decide) ?_
        refine wp_aload_n (pc := 30) dX12_proof_30 (by first | rfl | assumption | (repeat first | assumption | rfl | refine aG_n ?_ rfl rfl)) ?_
        refine wp_iload_n (pc := 31) dX12_proof_31 (by first | rfl | assumption | (repeat first | assumption | rfl | refine aG_n ?_ rfl rfl)) ?_
        refine wp_iload_n (pc := 32) dX12_proof_32 (by first | rfl | assumption | (repeat first | assumption | rfl | refine aG_n ?_ rfl rfl)) ?_
        refine wp_idiv (pc := 33) dX12_proof_33 (by decide) ?_
        refine wp_iconst (pc := 34) (v := 1) dX12_proof_34 (by decide) ?_
        refine wp_ixor (pc := 35) dX12_proof_35 ?_
        refine wp_iload_n (pc := 36) dX12_proof_36 (by first | rfl | assumption | (repeat first | assumption | rfl | refine aG_n ?_ rfl rfl)) ?_
        refine wp_imul (pc := 37) dX12_proof_37 ?_
        refine wp_iload_n (pc := 38) dX12_proof_38 (by first | rfl | assumption | (repeat first | assumption | rfl | refine aG_n ?_ rfl rfl)) ?_
        refine wp_cV (pc := 39) dX12_proof_39 lk_12_349 rfl (by decide) rfl (by first | rfl | assumption | exact sh_house (by omega) | exact sh_wish (by omega) | exact sh_wor (by omega) | exact sh_bar (by omega) | exact sh_term (by omega) | exact sh_sheet (by omega) | exact sh_items (by omega) | exact sh_sums (by omega)) rfl rfl ?_
        refine wp_aload_n (pc := 0) dX12_sumFrom_0 (by first | rfl | assumption | (repeat first | assumption | rfl | refine aG_n ?_ rfl rfl)) ?_
        refine wp_getR (pc := 1) dX12_sumFrom_1 fl_12_119 (by first | rfl | assumption | exact sh_house (by omega) | exact sh_wish (by omega) | exact sh_wor (by omega) | exact sh_bar (by omega) | exact sh_term (by omega) | exact sh_sheet (by omega) | exact sh_items (by omega) | exact sh_sums (by omega)) rfl ?_
        refine wp_iload_n (pc := 4) dX12_sumFrom_4 (by first | rfl | assumption | (repeat first | assumption | rfl | refine aG_n ?_ rfl rfl)) ?_
        refine wp_ialdC (pc := 5) (j := 0) dX12_sumFrom_5 (by first | rfl | assumption | exact sh_house (by omega) | exact sh_wish (by omega) | exact sh_wor (by omega) | exact sh_bar (by omega) | exact sh_term (by omega) | exact sh_sheet (by omega) | exact sh_items (by omega) | exact sh_sums (by omega)) (by decide) (by decide) ?_
        refine wp_aload_n (pc := 6) dX12_sumFrom_6 (by first | rfl | assumption | (repeat first | assumption | rfl | refine aG_n ?_ rfl rfl)) ?_
        refine wp_getR (pc := 7) dX12_sumFrom_7 fl_12_119 (by first | rfl | assumption | exact sh_house (by omega) | exact sh_wish (by omega) | exact sh_wor (by omega) | exact sh_bar (by omega) | exact sh_term (by omega) | exact sh_sheet (by omega) | exact sh_items (by omega) | exact sh_sums (by omega)) rfl ?_
        refine wp_iload_n (pc := 10) dX12_sumFrom_10 (by first | rfl | assumption | (repeat first | assumption | rfl | refine aG_n ?_ rfl rfl)) ?_
        refine wp_iconst (pc := 11) (v := 1) dX12_sumFrom_11 (by decide) ?_
        refine wp_iadd (pc := 12) dX12_sumFrom_12 ?_
        refine wp_bipush (pc := 13) (v := 8) dX12_sumFrom_13 (by decide) ?_
        refine wp_irem (pc := 15) dX12_sumFrom_15 (by decide) ?_
        refine wp_ialdC (pc := 16) (j := 1) dX12_sumFrom_16 (by first | rfl | assumption | exact sh_house (by omega) | exact sh_wish (by omega) | exact sh_wor (by omega) | exact sh_bar (by omega) | exact sh_term (by omega) | exact sh_sheet (by omega) | exact sh_items (by omega) | exact sh_sums (by omega)) (by decide) (by decide) ?_
        refine wp_cS (pc := 17) dX12_sumFrom_17 lk_12_344 rfl rfl rfl (c_X12_sumOf (aK_i ?_))
        refine wp_istore_n (pc := 20) dX12_sumFrom_20 (by decide) ?_
        refine wp_iload_n (pc := 21) dX12_sumFrom_21 (by first | rfl | assumption | (repeat first | assumption | rfl | refine aG_n ?_ rfl rfl)) ?_
        refine wp_iconst (pc := 22) (v := 4) dX12_sumFrom_22 (by decide) ?_
        refine wp_icmp_ge (pc := 23) (tgt := 42) dX12_sumFrom_23 rfl (fun _ => ?_) (fun q => absurd q (by decide))
        refine wp_iload_n (pc := 42) dX12_sumFrom_42 (by first | rfl | assumption | (repeat first | assumption | rfl | refine aG_n ?_ rfl rfl)) ?_
        refine wp_aload_n (pc := 43) dX12_sumFrom_43 (by first | rfl | assumption | (repeat first | assumption | rfl | refine aG_n ?_ rfl rfl)) ?_
        refine wp_getR (pc := 44) dX12_sumFrom_44 fl_12_119 (by first | rfl | assumption | exact sh_house (by omega) | exact sh_wish (by omega) | exact sh_wor (by omega) | exact sh_bar (by omega) | exact sh_term (by omega) | exact sh_sheet (by omega) | exact sh_items (by omega) | exact sh_sums (by omega)) rfl ?_
        refine wp_iload_n (pc := 47) dX12_sumFrom_47 (by first | rfl | assumption | (repeat first | assumption | rfl | refine aG_n ?_ rfl rfl)) ?_
        refine wp_iconst (pc := 48) (v := 2) dX12_sumFrom_48 (by decide) ?_
        refine wp_iadd (pc := 49) dX12_sumFrom_49 ?_
        refine wp_ialdC (pc := 50) (j := 2) dX12_sumFrom_50 (by first | rfl | assumption | exact sh_house (by omega) | exact sh_wish (by omega) | exact sh_wor (by omega) | exact sh_bar (by omega) | exact sh_term (by omega) | exact sh_sheet (by omega) | exact sh_items (by omega) | exact sh_sums (by omega)) (by decide) (by decide) ?_
        refine wp_aload_n (pc := 51) dX12_sumFrom_51 (by first | rfl | assumption | (repeat first | assumption | rfl | refine aG_n ?_ rfl rfl)) ?_
        refine wp_getR (pc := 52) dX12_sumFrom_52 fl_12_119 (by first | rfl | assumption | exact sh_house (by omega) | exact sh_wish (by omega) | exact sh_wor (by omega) | exact sh_bar (by omega) | exact sh_term (by omega) | exact sh_sheet (by omega) | exact sh_items (by omega) | exact sh_sums (by omega)) rfl ?_
        refine wp_iload_n (pc := 55) dX12_sumFrom_55 (by first | rfl | assumption | (repeat first | assumption | rfl | refine aG_n ?_ rfl rfl)) ?_
        refine wp_iconst (pc := 56) (v := 3) dX12_sumFrom_56 (by decide) ?_
        refine wp_iadd (pc := 57) dX12_sumFrom_57 ?_
        refine wp_ialdC (pc := 58) (j := 3) dX12_sumFrom_58 (by first | rfl | assumption | exact sh_house (by omega) | exact sh_wish (by omega) | exact sh_wor (by omega) | exact sh_bar (by omega) | exact sh_term (by omega) | exact sh_sheet (by omega) | exact sh_items (by omega) | exact sh_sums (by omega)) (by decide) (by decide) ?_
        refine wp_cS (pc := 59) dX12_sumFrom_59 lk_12_344 rfl rfl rfl (c_X12_sumOf (aK_i ?_))
        refine wp_cS (pc := 62) dX12_sumFrom_62 lk_12_344 rfl rfl rfl (c_X12_sumOf (aK_i ?_))
        refine wp_istore (pc := 65) dX12_sumFrom_65 (by decide) ?_
        refine wp_iload_n (pc := 67) dX12_sumFrom_67 (by first | rfl | assumption | (repeat first | assumption | rfl | refine aG_n ?_ rfl rfl)) ?_
        refine wp_iconst (pc := 68) (v := 4) dX12_sumFrom_68 (by decide) ?_
        refine wp_icmp_ne (pc := 69) (tgt := 75) dX12_sumFrom_69 rfl (fun q => absurd q (by decide)) (fun _ => ?_)
        refine wp_iload (pc := 72) dX12_sumFrom_72 (by first | rfl | assumption | (repeat first | assumption | rfl | refine aG_n ?_ rfl rfl)) ?_
        refine wp_iretK (pc := 74) dX12_sumFrom_74 rfl (by first | rfl | decide | assumption) ?_
        refine wp_ireturn (pc := 42) dX12_proof_42 rfl (by first | rfl | decide | assumption) ?_
        refine qEq ?_ (k' _ hI)
        rw [hR.2 2 (by omega) (by omega), hR.2 (2 * 2) (by omega) (by omega), hR.2 (2 * 2 + 1) (by omega) (by omega)]
        rw [← (hR.1 0 (by omega)).1, ← (hR.1 1 (by omega)).1, ← (hR.1 2 (by omega)).1, ← (hR.1 3 (by omega)).1]
      | 5, _, 0, _ =>
        refine wp_iload_n (pc := 0) dX11_proof_0 (by first | rfl | assumption | (repeat first | assumption | rfl | refine aG_n ?_ rfl rfl)) ?_
        refine wp_iconst (pc := 1) (v := 0) dX11_proof_1 (by decide) ?_
        refine wp_bipush (pc := 2) (v := 7) dX11_proof_2 (by decide) ?_
        refine wp_cS (pc := 4) dX11_proof_4 lk_11_112 rfl rfl rfl (c_X11_isWithin (fun _ => aK_i ?_) (fun q => absurd c1 q))
        refine wp_if_eq (pc := 7) (tgt := 19) dX11_proof_7 rfl (fun q => absurd q (by decide)) (fun _ => ?_)
        refine wp_iload_n (pc := 10) dX11_proof_10 (by first | rfl | assumption | (repeat first | assumption | rfl | refine aG_n ?_ rfl rfl)) ?_
        refine wp_iconst (pc := 11) (v := 0) dX11_proof_11 (by decide) ?_
        refine wp_iconst (pc := 12) (v := 2) dX11_proof_12 (by decide) ?_
        refine wp_cS (pc := 13) dX11_proof_13 lk_11_112 rfl rfl rfl (c_X11_isWithin (fun _ => aK_i ?_) (fun q => absurd c2 q))
        refine wp_if_ne (pc := 16) (tgt := 21) dX11_proof_16 rfl (fun _ => ?_) (fun q => absurd q (by decide))
        refine wp_aload_n (pc := 21) dX11_proof_21 (by first | rfl | assumption | (repeat first | assumption | rfl | refine aG_n ?_ rfl rfl)) ?_
        refine wp_getR (pc := 22) dX11_proof_22 fl_11_60 (by first | rfl | assumption | exact sh_house (by omega) | exact sh_wish (by omega) | exact sh_wor (by omega) | exact sh_bar (by omega) | exact sh_term (by omega) | exact sh_sheet (by omega) | exact sh_items (by omega) | exact sh_sums (by omega)) rfl ?_
        refine wp_iload_n (pc := 25) dX11_proof_25 (by first | rfl | assumption | (repeat first | assumption | rfl | refine aG_n ?_ rfl rfl)) ?_
        refine wp_iload_n (pc := 26) dX11_proof_26 (by first | rfl | assumption | (repeat first | assumption | rfl | refine aG_n ?_ rfl rfl)) ?_
        refine wp_cV (pc := 27) dX11_proof_27 lk_11_352 rfl (by decide) rfl (by first | rfl | assumption | exact sh_house (by omega) | exact sh_wish (by omega) | exact sh_wor (by omega) | exact sh_bar (by omega) | exact sh_term (by omega) | exact sh_sheet (by omega) | exact sh_items (by omega) | exact sh_sums (by omega)) rfl rfl ?_
        refine wp_aload_n (pc := 0) dX5_beside_0 (by first | rfl | assumption | (repeat first | assumption | rfl | refine aG_n ?_ rfl rfl)) ?_
        refine wp_getR (pc := 1) dX5_beside_1 fl_5_9 (by first | rfl | assumption | exact sh_house (by omega) | exact sh_wish (by omega) | exact sh_wor (by omega) | exact sh_bar (by omega) | exact sh_term (by omega) | exact sh_sheet (by omega) | exact sh_items (by omega) | exact sh_sums (by omega)) rfl ?_
        refine wp_bipush (pc := 4) (v := 8) dX5_beside_4 (by decide) ?_
        refine wp_iload_n (pc := 6) dX5_beside_6 (by first | rfl | assumption | (repeat first | assumption | rfl | refine aG_n ?_ rfl rfl)) ?_
        refine wp_iadd (pc := 7) dX5_beside_7 ?_
        refine wp_iload_n (pc := 8) dX5_beside_8 (by first | rfl | assumption | (repeat first | assumption | rfl | refine aG_n ?_ rfl rfl)) ?_
        refine wp_ishr (pc := 9) dX5_beside_9 ?_
        refine wp_iconst (pc := 10) (v := 1) dX5_beside_10 (by decide) ?_
        refine wp_ixor (pc := 11) dX5_beside_11 ?_
        refine wp_ialdC (pc := 12) (j := 12) dX5_beside_12 (by first | rfl | assumption | exact sh_house (by omega) | exact sh_wish (by omega) | exact sh_wor (by omega) | exact sh_bar (by omega) | exact sh_term (by omega) | exact sh_sheet (by omega) | exact sh_items (by omega) | exact sh_sums (by omega)) (by decide) (by decide) ?_
        refine wp_iretK (pc := 13) dX5_beside_13 rfl (by first | rfl | decide | assumption) ?_
        refine wp_ireturn (pc := 30) dX11_proof_30 rfl (by first | rfl | decide | assumption) ?_
        refine k _ _ (fun Q' k' => ?_)
        refine wp_iload_n (pc := 0) dX12_proof_0 (by first | rfl | assumption | (repeat first | assumption | rfl | refine aG_n ?_ rfl rfl)) ?_
        refine wp_i2l (pc := 1) dX12_proof_1 ?_
        refine wp_lconst (pc := 2) (v := 0) dX12_proof_2 (by decide) ?_
        refine wp_ldc2 (pc := 3) dX12_proof_3 cl_12_347 ?_
        refine wp_cS (pc := 6) dX12_proof_6 lk_12_133 rfl rfl rfl (c_X12_in (fun _ => aK_i ?_) (fun q => absurd (by rw [w_int]; exact c1) q))
        refine wp_if_eq (pc := 9) (tgt := 24) dX12_proof_9 rfl (fun q => absurd q (by decide)) (fun _ => ?_)
        refine wp_iload_n (pc := 12) dX12_proof_12 (by first | rfl | assumption | (repeat first | assumption | rfl | refine aG_n ?_ rfl rfl)) ?_
        refine wp_i2l (pc := 13) dX12_proof_13 ?_
        refine wp_lconst (pc := 14) (v := 0) dX12_proof_14 (by decide) ?_
        refine wp_ldc2 (pc := 15) dX12_proof_15 cl_12_212 ?_
        refine wp_cS (pc := 18) dX12_proof_18 lk_12_133 rfl rfl rfl (c_X12_in (fun _ => aK_i ?_) (fun q => absurd (by rw [w_int]; exact c2) q))
        refine wp_if_ne (pc := 21) (tgt := 26) dX12_proof_21 rfl (fun _ => ?_) (fun q => absurd q (by decide))
        refine wp_iconst (pc := 26) (v := 1) dX12_proof_26 (by decide) ?_
        refine wp_iload_n (pc := 27) dX12_proof_27 (by first | rfl | assumption | (repeat first | assumption | rfl | refine aG_n ?_ rfl rfl)) ?_
        refine wp_ishl (pc := 28) dX12_proof_28 ?_
        refine wp_istore_n (pc := 29) dX12_proof_29 (by decide) ?_
        refine wp_aload_n (pc := 30) dX12_proof_30 (by first | rfl | assumption | (repeat first | assumption | rfl | refine aG_n ?_ rfl rfl)) ?_
        refine wp_iload_n (pc := 31) dX12_proof_31 (by first | rfl | assumption | (repeat first | assumption | rfl | refine aG_n ?_ rfl rfl)) ?_
        refine wp_iload_n (pc := 32) dX12_proof_32 (by first | rfl | assumption | (repeat first | assumption | rfl | refine aG_n ?_ rfl rfl)) ?_
        refine wp_idiv (pc := 33) dX12_proof_33 (by decide) ?_
        refine wp_iconst (pc := 34) (v := 1) dX12_proof_34 (by decide) ?_
        refine wp_ixor (pc := 35) dX12_proof_35 ?_
        refine wp_iload_n (pc := 36) dX12_proof_36 (by first | rfl | assumption | (repeat first | assumption | rfl | refine aG_n ?_ rfl rfl)) ?_
        refine wp_imul (pc := 37) dX12_proof_37 ?_
        refine wp_iload_n (pc := 38) dX12_proof_38 (by first | rfl | assumption | (repeat first | assumption | rfl | refine aG_n ?_ rfl rfl)) ?_
        refine wp_cV (pc := 39) dX12_proof_39 lk_12_349 rfl (by decide) rfl (by first | rfl | assumption | exact sh_house (by omega) | exact sh_wish (by omega) | exact sh_wor (by omega) | exact sh_bar (by omega) | exact sh_term (by omega) | exact sh_sheet (by omega) | exact sh_items (by omega) | exact sh_sums (by omega)) rfl rfl ?_
        refine wp_aload_n (pc := 0) dX12_sumFrom_0 (by first | rfl | assumption | (repeat first | assumption | rfl | refine aG_n ?_ rfl rfl)) ?_
        refine wp_getR (pc := 1) dX12_sumFrom_1 fl_12_119 (by first | rfl | assumption | exact sh_house (by omega) | exact sh_wish (by omega) | exact sh_wor (by omega) | exact sh_bar (by omega) | exact sh_term (by omega) | exact sh_sheet (by omega) | exact sh_items (by omega) | exact sh_sums (by omega)) rfl ?_
        refine wp_iload_n (pc := 4) dX12_sumFrom_4 (by first | rfl | assumption | (repeat first | assumption | rfl | refine aG_n ?_ rfl rfl)) ?_
        refine wp_ialdC (pc := 5) (j := 4) dX12_sumFrom_5 (by first | rfl | assumption | exact sh_house (by omega) | exact sh_wish (by omega) | exact sh_wor (by omega) | exact sh_bar (by omega) | exact sh_term (by omega) | exact sh_sheet (by omega) | exact sh_items (by omega) | exact sh_sums (by omega)) (by decide) (by decide) ?_
        refine wp_aload_n (pc := 6) dX12_sumFrom_6 (by first | rfl | assumption | (repeat first | assumption | rfl | refine aG_n ?_ rfl rfl)) ?_
        refine wp_getR (pc := 7) dX12_sumFrom_7 fl_12_119 (by first | rfl | assumption | exact sh_house (by omega) | exact sh_wish (by omega) | exact sh_wor (by omega) | exact sh_bar (by omega) | exact sh_term (by omega) | exact sh_sheet (by omega) | exact sh_items (by omega) | exact sh_sums (by omega)) rfl ?_
        refine wp_iload_n (pc := 10) dX12_sumFrom_10 (by first | rfl | assumption | (repeat first | assumption | rfl | refine aG_n ?_ rfl rfl)) ?_
        refine wp_iconst (pc := 11) (v := 1) dX12_sumFrom_11 (by decide) ?_
        refine wp_iadd (pc := 12) dX12_sumFrom_12 ?_
        refine wp_bipush (pc := 13) (v := 8) dX12_sumFrom_13 (by decide) ?_
        refine wp_irem (pc := 15) dX12_sumFrom_15 (by decide) ?_
        refine wp_ialdC (pc := 16) (j := 5) dX12_sumFrom_16 (by first | rfl | assumption | exact sh_house (by omega) | exact sh_wish (by omega) | exact sh_wor (by omega) | exact sh_bar (by omega) | exact sh_term (by omega) | exact sh_sheet (by omega) | exact sh_items (by omega) | exact sh_sums (by omega)) (by decide) (by decide) ?_
        refine wp_cS (pc := 17) dX12_sumFrom_17 lk_12_344 rfl rfl rfl (c_X12_sumOf (aK_i ?_))
        refine wp_istore_n (pc := 20) dX12_sumFrom_20 (by decide) ?_
        refine wp_iload_n (pc := 21) dX12_sumFrom_21 (by first | rfl | assumption | (repeat first | assumption | rfl | refine aG_n ?_ rfl rfl)) ?_
        refine wp_iconst (pc := 22) (v := 4) dX12_sumFrom_22 (by decide) ?_
        refine wp_icmp_ge (pc := 23) (tgt := 42) dX12_sumFrom_23 rfl (fun q => absurd q (by decide)) (fun _ => ?_)
        refine wp_iload_n (pc := 26) dX12_sumFrom_26 (by first | rfl | assumption | (repeat first | assumption | rfl | refine aG_n ?_ rfl rfl)) ?_
        refine wp_iconst (pc := 27) (v := 1) dX12_sumFrom_27 (by decide) ?_
        refine wp_icmp_ne (pc := 28) (tgt := 40) dX12_sumFrom_28 rfl (fun q => absurd q (by decide)) (fun _ => ?_)
        refine wp_aload_n (pc := 31) dX12_sumFrom_31 (by first | rfl | assumption | (repeat first | assumption | rfl | refine aG_n ?_ rfl rfl)) ?_
        refine wp_getR (pc := 32) dX12_sumFrom_32 fl_12_119 (by first | rfl | assumption | exact sh_house (by omega) | exact sh_wish (by omega) | exact sh_wor (by omega) | exact sh_bar (by omega) | exact sh_term (by omega) | exact sh_sheet (by omega) | exact sh_items (by omega) | exact sh_sums (by omega)) rfl ?_
        refine wp_iload_n (pc := 35) dX12_sumFrom_35 (by first | rfl | assumption | (repeat first | assumption | rfl | refine aG_n ?_ rfl rfl)) ?_
        refine wp_ialdC (pc := 36) (j := 4) dX12_sumFrom_36 (by first | rfl | assumption | exact sh_house (by omega) | exact sh_wish (by omega) | exact sh_wor (by omega) | exact sh_bar (by omega) | exact sh_term (by omega) | exact sh_sheet (by omega) | exact sh_items (by omega) | exact sh_sums (by omega)) (by decide) (by decide) ?_
        refine wp_goto (pc := 37) (tgt := 41) dX12_sumFrom_37 rfl ?_
        refine wp_iretK (pc := 41) dX12_sumFrom_41 rfl (by first | rfl | decide | assumption) ?_
        refine wp_ireturn (pc := 42) dX12_proof_42 rfl (by first | rfl | decide | assumption) ?_
        refine qEq ?_ (k' _ hI)
        exact (hR.1 4 (by omega)).1.symm
      | 5, _, 1, _ =>
        refine wp_iload_n (pc := 0) dX11_proof_0 (by first | rfl | assumption | (repeat first | assumption | rfl | refine aG_n ?_ rfl rfl)) ?_
        refine wp_iconst (pc := 1) (v := 0) dX11_proof_1 (by decide) ?_
        refine wp_bipush (pc := 2) (v := 7) dX11_proof_2 (by decide) ?_
        refine wp_cS (pc := 4) dX11_proof_4 lk_11_112 rfl rfl rfl (c_X11_isWithin (fun _ => aK_i ?_) (fun q => absurd c1 q))
        refine wp_if_eq (pc := 7) (tgt := 19) dX11_proof_7 rfl (fun q => absurd q (by decide)) (fun _ => ?_)
        refine wp_iload_n (pc := 10) dX11_proof_10 (by first | rfl | assumption | (repeat first | assumption | rfl | refine aG_n ?_ rfl rfl)) ?_
        refine wp_iconst (pc := 11) (v := 0) dX11_proof_11 (by decide) ?_
        refine wp_iconst (pc := 12) (v := 2) dX11_proof_12 (by decide) ?_
        refine wp_cS (pc := 13) dX11_proof_13 lk_11_112 rfl rfl rfl (c_X11_isWithin (fun _ => aK_i ?_) (fun q => absurd c2 q))
        refine wp_if_ne (pc := 16) (tgt := 21) dX11_proof_16 rfl (fun _ => ?_) (fun q => absurd q (by decide))
        refine wp_aload_n (pc := 21) dX11_proof_21 (by first | rfl | assumption | (repeat first | assumption | rfl | refine aG_n ?_ rfl rfl)) ?_
        refine wp_getR (pc := 22) dX11_proof_22 fl_11_60 (by first | rfl | assumption | exact sh_house (by omega) | exact sh_wish (by omega) | exact sh_wor (by omega) | exact sh_bar (by omega) | exact sh_term (by omega) | exact sh_sheet (by omega) | exact sh_items (by omega) | exact sh_sums (by omega)) rfl ?_
        refine wp_iload_n (pc := 25) dX11_proof_25 (by first | rfl | assumption | (repeat first | assumption | rfl | refine aG_n ?_ rfl rfl)) ?_
        refine wp_iload_n (pc := 26) dX11_proof_26 (by first | rfl | assumption | (repeat first | assumption | rfl | refine aG_n ?_ rfl rfl)) ?_
        refine wp_cV (pc := 27) dX11_proof_27 lk_11_352 rfl (by decide) rfl (by first | rfl | assumption | exact sh_house (by omega) | exact sh_wish (by omega) | exact sh_wor (by omega) | exact sh_bar (by omega) | exact sh_term (by omega) | exact sh_sheet (by omega) | exact sh_items (by omega) | exact sh_sums (by omega)) rfl rfl ?_
        refine wp_aload_n (pc := 0) dX5_beside_0 (by first | rfl | assumption | (repeat first | assumption | rfl | refine aG_n ?_ rfl rfl)) ?_
        refine wp_getR (pc := 1) dX5_beside_1 fl_5_9 (by first | rfl | assumption | exact sh_house (by omega) | exact sh_wish (by omega) | exact sh_wor (by omega) | exact sh_bar (by omega) | exact sh_term (by omega) | exact sh_sheet (by omega) | exact sh_items (by omega) | exact sh_sums (by omega)) rfl ?_
        refine wp_bipush (pc := 4) (v := 8) dX5_beside_4 (by decide) ?_
        refine wp_iload_n (pc := 6) dX5_beside_6 (by first | rfl | assumption | (repeat first | assumption | rfl | refine aG_n ?_ rfl rfl)) ?_
        refine wp_iadd (pc := 7) dX5_beside_7 ?_
        refine wp_iload_n (pc := 8) dX5_beside_8 (by first | rfl | assumption | (repeat first | assumption | rfl | refine aG_n ?_ rfl rfl)) ?_
        refine wp_ishr (pc := 9) dX5_beside_9 ?_
        refine wp_iconst (pc := 10) (v := 1) dX5_beside_10 (by decide) ?_
        refine wp_ixor (pc := 11) dX5_beside_11 ?_
        refine wp_ialdC (pc := 12) (j := 7) dX5_beside_12 (by first | rfl | assumption | exact sh_house (by omega) | exact sh_wish (by omega) | exact sh_wor (by omega) | exact sh_bar (by omega) | exact sh_term (by omega) | exact sh_sheet (by omega) | exact sh_items (by omega) | exact sh_sums (by omega)) (by decide) (by decide) ?_
        refine wp_iretK (pc := 13) dX5_beside_13 rfl (by first | rfl | decide | assumption) ?_
        refine wp_ireturn (pc := 30) dX11_proof_30 rfl (by first | rfl | decide | assumption) ?_
        refine k _ _ (fun Q' k' => ?_)
        refine wp_iload_n (pc := 0) dX12_proof_0 (by first | rfl | assumption | (repeat first | assumption | rfl | refine aG_n ?_ rfl rfl)) ?_
        refine wp_i2l (pc := 1) dX12_proof_1 ?_
        refine wp_lconst (pc := 2) (v := 0) dX12_proof_2 (by decide) ?_
        refine wp_ldc2 (pc := 3) dX12_proof_3 cl_12_347 ?_
        refine wp_cS (pc := 6) dX12_proof_6 lk_12_133 rfl rfl rfl (c_X12_in (fun _ => aK_i ?_) (fun q => absurd (by rw [w_int]; exact c1) q))
        refine wp_if_eq (pc := 9) (tgt := 24) dX12_proof_9 rfl (fun q => absurd q (by decide)) (fun _ => ?_)
        refine wp_iload_n (pc := 12) dX12_proof_12 (by first | rfl | assumption | (repeat first | assumption | rfl | refine aG_n ?_ rfl rfl)) ?_
        refine wp_i2l (pc := 13) dX12_proof_13 ?_
        refine wp_lconst (pc := 14) (v := 0) dX12_proof_14 (by decide) ?_
        refine wp_ldc2 (pc := 15) dX12_proof_15 cl_12_212 ?_
        refine wp_cS (pc := 18) dX12_proof_18 lk_12_133 rfl rfl rfl (c_X12_in (fun _ => aK_i ?_) (fun q => absurd (by rw [w_int]; exact c2) q))
        refine wp_if_ne (pc := 21) (tgt := 26) dX12_proof_21 rfl (fun _ => ?_) (fun q => absurd q (by decide))
        refine wp_iconst (pc := 26) (v := 1) dX12_proof_26 (by decide) ?_
        refine wp_iload_n (pc := 27) dX12_proof_27 (by first | rfl | assumption | (repeat first | assumption | rfl | refine aG_n ?_ rfl rfl)) ?_
        refine wp_ishl (pc := 28) dX12_proof_28 ?_
        refine wp_istore_n (pc := 29) dX12_proof_29 (by decide) ?_
        refine wp_aload_n (pc := 30) dX12_proof_30 (by first | rfl | assumption | (repeat first | assumption | rfl | refine aG_n ?_ rfl rfl)) ?_
        refine wp_iload_n (pc := 31) dX12_proof_31 (by first | rfl | assumption | (repeat first | assumption | rfl | refine aG_n ?_ rfl rfl)) ?_
        refine wp_iload_n (pc := 32) dX12_proof_32 (by first | rfl | assumption | (repeat first | assumption | rfl | refine aG_n ?_ rfl rfl)) ?_
        refine wp_idiv (pc := 33) dX12_proof_33 (by decide) ?_
        refine wp_iconst (pc := 34) (v := 1) dX12_proof_34 (by decide) ?_
        refine wp_ixor (pc := 35) dX12_proof_35 ?_
        refine wp_iload_n (pc := 36) dX12_proof_36 (by first | rfl | assumption | (repeat first | assumption | rfl | refine aG_n ?_ rfl rfl)) ?_
        refine wp_imul (pc := 37) dX12_proof_37 ?_
        refine wp_iload_n (pc := 38) dX12_proof_38 (by first | rfl | assumption | (repeat first | assumption | rfl | refine aG_n ?_ rfl rfl)) ?_
        refine wp_cV (pc := 39) dX12_proof_39 lk_12_349 rfl (by decide) rfl (by first | rfl | assumption | exact sh_house (by omega) | exact sh_wish (by omega) | exact sh_wor (by omega) | exact sh_bar (by omega) | exact sh_term (by omega) | exact sh_sheet (by omega) | exact sh_items (by omega) | exact sh_sums (by omega)) rfl rfl ?_
        refine wp_aload_n (pc := 0) dX12_sumFrom_0 (by first | rfl | assumption | (repeat first | assumption | rfl | refine aG_n ?_ rfl rfl)) ?_
        refine wp_getR (pc := 1) dX12_sumFrom_1 fl_12_119 (by first | rfl | assumption | exact sh_house (by omega) | exact sh_wish (by omega) | exact sh_wor (by omega) | exact sh_bar (by omega) | exact sh_term (by omega) | exact sh_sheet (by omega) | exact sh_items (by omega) | exact sh_sums (by omega)) rfl ?_
        refine wp_iload_n (pc := 4) dX12_sumFrom_4 (by first | rfl | assumption | (repeat first | assumption | rfl | refine aG_n ?_ rfl rfl)) ?_
        refine wp_ialdC (pc := 5) (j := 6) dX12_sumFrom_5 (by first | rfl | assumption | exact sh_house (by omega) | exact sh_wish (by omega) | exact sh_wor (by omega) | exact sh_bar (by omega) | exact sh_term (by omega) | exact sh_sheet (by omega) | exact sh_items (by omega) | exact sh_sums (by omega)) (by decide) (by decide) ?_
        refine wp_aload_n (pc := 6) dX12_sumFrom_6 (by first | rfl | assumption | (repeat first | assumption | rfl | refine aG_n ?_ rfl rfl)) ?_
        refine wp_getR (pc := 7) dX12_sumFrom_7 fl_12_119 (by first | rfl | assumption | exact sh_house (by omega) | exact sh_wish (by omega) | exact sh_wor (by omega) | exact sh_bar (by omega) | exact sh_term (by omega) | exact sh_sheet (by omega) | exact sh_items (by omega) | exact sh_sums (by omega)) rfl ?_
        refine wp_iload_n (pc := 10) dX12_sumFrom_10 (by first | rfl | assumption | (repeat first | assumption | rfl | refine aG_n ?_ rfl rfl)) ?_
        refine wp_iconst (pc := 11) (v := 1) dX12_sumFrom_11 (by decide) ?_
        refine wp_iadd (pc := 12) dX12_sumFrom_12 ?_
        refine wp_bipush (pc := 13) (v := 8) dX12_sumFrom_13 (by decide) ?_
        refine wp_irem (pc := 15) dX12_sumFrom_15 (by decide) ?_
        refine wp_ialdC (pc := 16) (j := 7) dX12_sumFrom_16 (by first | rfl | assumption | exact sh_house (by omega) | exact sh_wish (by omega) | exact sh_wor (by omega) | exact sh_bar (by omega) | exact sh_term (by omega) | exact sh_sheet (by omega) | exact sh_items (by omega) | exact sh_sums (by omega)) (by decide) (by decide) ?_
        refine wp_cS (pc := 17) dX12_sumFrom_17 lk_12_344 rfl rfl rfl (c_X12_sumOf (aK_i ?_))
        refine wp_istore_n (pc := 20) dX12_sumFrom_20 (by decide) ?_
        refine wp_iload_n (pc := 21) dX12_sumFrom_21 (by first | rfl | assumption | (repeat first | assumption | rfl | refine aG_n ?_ rfl rfl)) ?_
        refine wp_iconst (pc := 22) (v := 4) dX12_sumFrom_22 (by decide) ?_
        refine wp_icmp_ge (pc := 23) (tgt := 42) dX12_sumFrom_23 rfl (fun q => absurd q (by decide)) (fun _ => ?_)
        refine wp_iload_n (pc := 26) dX12_sumFrom_26 (by first | rfl | assumption | (repeat first | assumption | rfl | refine aG_n ?_ rfl rfl)) ?_
        refine wp_iconst (pc := 27) (v := 1) dX12_sumFrom_27 (by decide) ?_
        refine wp_icmp_ne (pc := 28) (tgt := 40) dX12_sumFrom_28 rfl (fun _ => ?_) (fun q => absurd q (by decide))
        refine wp_iload_n (pc := 40) dX12_sumFrom_40 (by first | rfl | assumption | (repeat first | assumption | rfl | refine aG_n ?_ rfl rfl)) ?_
        refine wp_iretK (pc := 41) dX12_sumFrom_41 rfl (by first | rfl | decide | assumption) ?_
        refine wp_ireturn (pc := 42) dX12_proof_42 rfl (by first | rfl | decide | assumption) ?_
        refine qEq ?_ (k' _ hI)
        rw [hR.2 7 (by omega) (by omega)]
        rw [← (hR.1 6 (by omega)).1, ← (hR.1 7 (by omega)).1]
      | 5, _, 2, _ =>
        refine wp_iload_n (pc := 0) dX11_proof_0 (by first | rfl | assumption | (repeat first | assumption | rfl | refine aG_n ?_ rfl rfl)) ?_
        refine wp_iconst (pc := 1) (v := 0) dX11_proof_1 (by decide) ?_
        refine wp_bipush (pc := 2) (v := 7) dX11_proof_2 (by decide) ?_
        refine wp_cS (pc := 4) dX11_proof_4 lk_11_112 rfl rfl rfl (c_X11_isWithin (fun _ => aK_i ?_) (fun q => absurd c1 q))
        refine wp_if_eq (pc := 7) (tgt := 19) dX11_proof_7 rfl (fun q => absurd q (by decide)) (fun _ => ?_)
        refine wp_iload_n (pc := 10) dX11_proof_10 (by first | rfl | assumption | (repeat first | assumption | rfl | refine aG_n ?_ rfl rfl)) ?_
        refine wp_iconst (pc := 11) (v := 0) dX11_proof_11 (by decide) ?_
        refine wp_iconst (pc := 12) (v := 2) dX11_proof_12 (by decide) ?_
        refine wp_cS (pc := 13) dX11_proof_13 lk_11_112 rfl rfl rfl (c_X11_isWithin (fun _ => aK_i ?_) (fun q => absurd c2 q))
        refine wp_if_ne (pc := 16) (tgt := 21) dX11_proof_16 rfl (fun _ => ?_) (fun q => absurd q (by decide))
        refine wp_aload_n (pc := 21) dX11_proof_21 (by first | rfl | assumption | (repeat first | assumption | rfl | refine aG_n ?_ rfl rfl)) ?_
        refine wp_getR (pc := 22) dX11_proof_22 fl_11_60 (by first | rfl | assumption | exact sh_house (by omega) | exact sh_wish (by omega) | exact sh_wor (by omega) | exact sh_bar (by omega) | exact sh_term (by omega) | exact sh_sheet (by omega) | exact sh_items (by omega) | exact sh_sums (by omega)) rfl ?_
        refine wp_iload_n (pc := 25) dX11_proof_25 (by first | rfl | assumption | (repeat first | assumption | rfl | refine aG_n ?_ rfl rfl)) ?_
        refine wp_iload_n (pc := 26) dX11_proof_26 (by first | rfl | assumption | (repeat first | assumption | rfl | refine aG_n ?_ rfl rfl)) ?_
        refine wp_cV (pc := 27) dX11_proof_27 lk_11_352 rfl (by decide) rfl (by first | rfl | assumption | exact sh_house (by omega) | exact sh_wish (by omega) | exact sh_wor (by omega) | exact sh_bar (by omega) | exact sh_term (by omega) | exact sh_sheet (by omega) | exact sh_items (by omega) | exact sh_sums (by omega)) rfl rfl ?_
        refine wp_aload_n (pc := 0) dX5_beside_0 (by first | rfl | assumption | (repeat first | assumption | rfl | refine aG_n ?_ rfl rfl)) ?_
        refine wp_getR (pc := 1) dX5_beside_1 fl_5_9 (by first | rfl | assumption | exact sh_house (by omega) | exact sh_wish (by omega) | exact sh_wor (by omega) | exact sh_bar (by omega) | exact sh_term (by omega) | exact sh_sheet (by omega) | exact sh_items (by omega) | exact sh_sums (by omega)) rfl ?_
        refine wp_bipush (pc := 4) (v := 8) dX5_beside_4 (by decide) ?_
        refine wp_iload_n (pc := 6) dX5_beside_6 (by first | rfl | assumption | (repeat first | assumption | rfl | refine aG_n ?_ rfl rfl)) ?_
        refine wp_iadd (pc := 7) dX5_beside_7 ?_
        refine wp_iload_n (pc := 8) dX5_beside_8 (by first | rfl | assumption | (repeat first | assumption | rfl | refine aG_n ?_ rfl rfl)) ?_
        refine wp_ishr (pc := 9) dX5_beside_9 ?_
        refine wp_iconst (pc := 10) (v := 1) dX5_beside_10 (by decide) ?_
        refine wp_ixor (pc := 11) dX5_beside_11 ?_
        refine wp_ialdC (pc := 12) (j := 2) dX5_beside_12 (by first | rfl | assumption | exact sh_house (by omega) | exact sh_wish (by omega) | exact sh_wor (by omega) | exact sh_bar (by omega) | exact sh_term (by omega) | exact sh_sheet (by omega) | exact sh_items (by omega) | exact sh_sums (by omega)) (by decide) (by decide) ?_
        refine wp_iretK (pc := 13) dX5_beside_13 rfl (by first | rfl | decide | assumption) ?_
        refine wp_ireturn (pc := 30) dX11_proof_30 rfl (by first | rfl | decide | assumption) ?_
        refine k _ _ (fun Q' k' => ?_)
        refine wp_iload_n (pc := 0) dX12_proof_0 (by first | rfl | assumption | (repeat first | assumption | rfl | refine aG_n ?_ rfl rfl)) ?_
        refine wp_i2l (pc := 1) dX12_proof_1 ?_
        refine wp_lconst (pc := 2) (v := 0) dX12_proof_2 (by decide) ?_
        refine wp_ldc2 (pc := 3) dX12_proof_3 cl_12_347 ?_
        refine wp_cS (pc := 6) dX12_proof_6 lk_12_133 rfl rfl rfl (c_X12_in (fun _ => aK_i ?_) (fun q => absurd (by rw [w_int]; exact c1) q))
        refine wp_if_eq (pc := 9) (tgt := 24) dX12_proof_9 rfl (fun q => absurd q (by decide)) (fun _ => ?_)
        refine wp_iload_n (pc := 12) dX12_proof_12 (by first | rfl | assumption | (repeat first | assumption | rfl | refine aG_n ?_ rfl rfl)) ?_
        refine wp_i2l (pc := 13) dX12_proof_13 ?_
        refine wp_lconst (pc := 14) (v := 0) dX12_proof_14 (by decide) ?_
        refine wp_ldc2 (pc := 15) dX12_proof_15 cl_12_212 ?_
        refine wp_cS (pc := 18) dX12_proof_18 lk_12_133 rfl rfl rfl (c_X12_in (fun _ => aK_i ?_) (fun q => absurd (by rw [w_int]; exact c2) q))
        refine wp_if_ne (pc := 21) (tgt := 26) dX12_proof_21 rfl (fun _ => ?_) (fun q => absurd q (by decide))
        refine wp_iconst (pc := 26) (v := 1) dX12_proof_26 (by decide) ?_
        refine wp_iload_n (pc := 27) dX12_proof_27 (by first | rfl | assumption | (repeat first | assumption | rfl | refine aG_n ?_ rfl rfl)) ?_
        refine wp_ishl (pc := 28) dX12_proof_28 ?_
        refine wp_istore_n (pc := 29) dX12_proof_29 (by decide) ?_
        refine wp_aload_n (pc := 30) dX12_proof_30 (by first | rfl | assumption | (repeat first | assumption | rfl | refine aG_n ?_ rfl rfl)) ?_
        refine wp_iload_n (pc := 31) dX12_proof_31 (by first | rfl | assumption | (repeat first | assumption | rfl | refine aG_n ?_ rfl rfl)) ?_
        refine wp_iload_n (pc := 32) dX12_proof_32 (by first | rfl | assumption | (repeat first | assumption | rfl | refine aG_n ?_ rfl rfl)) ?_
        refine wp_idiv (pc := 33) dX12_proof_33 (by decide) ?_
        refine wp_iconst (pc := 34) (v := 1) dX12_proof_34 (by decide) ?_
        refine wp_ixor (pc := 35) dX12_proof_35 ?_
        refine wp_iload_n (pc := 36) dX12_proof_36 (by first | rfl | assumption | (repeat first | assumption | rfl | refine aG_n ?_ rfl rfl)) ?_
        refine wp_imul (pc := 37) dX12_proof_37 ?_
        refine wp_iload_n (pc := 38) dX12_proof_38 (by first | rfl | assumption | (repeat first | assumption | rfl | refine aG_n ?_ rfl rfl)) ?_
        refine wp_cV (pc := 39) dX12_proof_39 lk_12_349 rfl (by decide) rfl (by first | rfl | assumption | exact sh_house (by omega) | exact sh_wish (by omega) | exact sh_wor (by omega) | exact sh_bar (by omega) | exact sh_term (by omega) | exact sh_sheet (by omega) | exact sh_items (by omega) | exact sh_sums (by omega)) rfl rfl ?_
        refine wp_aload_n (pc := 0) dX12_sumFrom_0 (by first | rfl | assumption | (repeat first | assumption | rfl | refine aG_n ?_ rfl rfl)) ?_
        refine wp_getR (pc := 1) dX12_sumFrom_1 fl_12_119 (by first | rfl | assumption | exact sh_house (by omega) | exact sh_wish (by omega) | exact sh_wor (by omega) | exact sh_bar (by omega) | exact sh_term (by omega) | exact sh_sheet (by omega) | exact sh_items (by omega) | exact sh_sums (by omega)) rfl ?_
        refine wp_iload_n (pc := 4) dX12_sumFrom_4 (by first | rfl | assumption | (repeat first | assumption | rfl | refine aG_n ?_ rfl rfl)) ?_
        refine wp_ialdC (pc := 5) (j := 0) dX12_sumFrom_5 (by first | rfl | assumption | exact sh_house (by omega) | exact sh_wish (by omega) | exact sh_wor (by omega) | exact sh_bar (by omega) | exact sh_term (by omega) | exact sh_sheet (by omega) | exact sh_items (by omega) | exact sh_sums (by omega)) (by decide) (by decide) ?_
        refine wp_aload_n (pc := 6) dX12_sumFrom_6 (by first | rfl | assumption | (repeat first | assumption | rfl | refine aG_n ?_ rfl rfl)) ?_
        refine wp_getR (pc := 7) dX12_sumFrom_7 fl_12_119 (by first | rfl | assumption | exact sh_house (by omega) | exact sh_wish (by omega) | exact sh_wor (by omega) | exact sh_bar (by omega) | exact sh_term (by omega) | exact sh_sheet (by omega) | exact sh_items (by omega) | exact sh_sums (by omega)) rfl ?_
        refine wp_iload_n (pc := 10) dX12_sumFrom_10 (by first | rfl | assumption | (repeat first | assumption | rfl | refine aG_n ?_ rfl rfl)) ?_
        refine wp_iconst (pc := 11) (v := 1) dX12_sumFrom_11 (by decide) ?_
        refine wp_iadd (pc := 12) dX12_sumFrom_12 ?_
        refine wp_bipush (pc := 13) (v := 8) dX12_sumFrom_13 (by decide) ?_
        refine wp_irem (pc := 15) dX12_sumFrom_15 (by decide) ?_
        refine wp_ialdC (pc := 16) (j := 1) dX12_sumFrom_16 (by first | rfl | assumption | exact sh_house (by omega) | exact sh_wish (by omega) | exact sh_wor (by omega) | exact sh_bar (by omega) | exact sh_term (by omega) | exact sh_sheet (by omega) | exact sh_items (by omega) | exact sh_sums (by omega)) (by decide) (by decide) ?_
        refine wp_cS (pc := 17) dX12_sumFrom_17 lk_12_344 rfl rfl rfl (c_X12_sumOf (aK_i ?_))
        refine wp_istore_n (pc := 20) dX12_sumFrom_20 (by decide) ?_
        refine wp_iload_n (pc := 21) dX12_sumFrom_21 (by first | rfl | assumption | (repeat first | assumption | rfl | refine aG_n ?_ rfl rfl)) ?_
        refine wp_iconst (pc := 22) (v := 4) dX12_sumFrom_22 (by decide) ?_
        refine wp_icmp_ge (pc := 23) (tgt := 42) dX12_sumFrom_23 rfl (fun _ => ?_) (fun q => absurd q (by decide))
        refine wp_iload_n (pc := 42) dX12_sumFrom_42 (by first | rfl | assumption | (repeat first | assumption | rfl | refine aG_n ?_ rfl rfl)) ?_
        refine wp_aload_n (pc := 43) dX12_sumFrom_43 (by first | rfl | assumption | (repeat first | assumption | rfl | refine aG_n ?_ rfl rfl)) ?_
        refine wp_getR (pc := 44) dX12_sumFrom_44 fl_12_119 (by first | rfl | assumption | exact sh_house (by omega) | exact sh_wish (by omega) | exact sh_wor (by omega) | exact sh_bar (by omega) | exact sh_term (by omega) | exact sh_sheet (by omega) | exact sh_items (by omega) | exact sh_sums (by omega)) rfl ?_
        refine wp_iload_n (pc := 47) dX12_sumFrom_47 (by first | rfl | assumption | (repeat first | assumption | rfl | refine aG_n ?_ rfl rfl)) ?_
        refine wp_iconst (pc := 48) (v := 2) dX12_sumFrom_48 (by decide) ?_
        refine wp_iadd (pc := 49) dX12_sumFrom_49 ?_
        refine wp_ialdC (pc := 50) (j := 2) dX12_sumFrom_50 (by first | rfl | assumption | exact sh_house (by omega) | exact sh_wish (by omega) | exact sh_wor (by omega) | exact sh_bar (by omega) | exact sh_term (by omega) | exact sh_sheet (by omega) | exact sh_items (by omega) | exact sh_sums (by omega)) (by decide) (by decide) ?_
        refine wp_aload_n (pc := 51) dX12_sumFrom_51 (by first | rfl | assumption | (repeat first | assumption | rfl | refine aG_n ?_ rfl rfl)) ?_
        refine wp_getR (pc := 52) dX12_sumFrom_52 fl_12_119 (by first | rfl | assumption | exact sh_house (by omega) | exact sh_wish (by omega) | exact sh_wor (by omega) | exact sh_bar (by omega) | exact sh_term (by omega) | exact sh_sheet (by omega) | exact sh_items (by omega) | exact sh_sums (by omega)) rfl ?_
        refine wp_iload_n (pc := 55) dX12_sumFrom_55 (by first | rfl | assumption | (repeat first | assumption | rfl | refine aG_n ?_ rfl rfl)) ?_
        refine wp_iconst (pc := 56) (v := 3) dX12_sumFrom_56 (by decide) ?_
        refine wp_iadd (pc := 57) dX12_sumFrom_57 ?_
        refine wp_ialdC (pc := 58) (j := 3) dX12_sumFrom_58 (by first | rfl | assumption | exact sh_house (by omega) | exact sh_wish (by omega) | exact sh_wor (by omega) | exact sh_bar (by omega) | exact sh_term (by omega) | exact sh_sheet (by omega) | exact sh_items (by omega) | exact sh_sums (by omega)) (by decide) (by decide) ?_
        refine wp_cS (pc := 59) dX12_sumFrom_59 lk_12_344 rfl rfl rfl (c_X12_sumOf (aK_i ?_))
        refine wp_cS (pc := 62) dX12_sumFrom_62 lk_12_344 rfl rfl rfl (c_X12_sumOf (aK_i ?_))
        refine wp_istore (pc := 65) dX12_sumFrom_65 (by decide) ?_
        refine wp_iload_n (pc := 67) dX12_sumFrom_67 (by first | rfl | assumption | (repeat first | assumption | rfl | refine aG_n ?_ rfl rfl)) ?_
        refine wp_iconst (pc := 68) (v := 4) dX12_sumFrom_68 (by decide) ?_
        refine wp_icmp_ne (pc := 69) (tgt := 75) dX12_sumFrom_69 rfl (fun q => absurd q (by decide)) (fun _ => ?_)
        refine wp_iload (pc := 72) dX12_sumFrom_72 (by first | rfl | assumption | (repeat first | assumption | rfl | refine aG_n ?_ rfl rfl)) ?_
        refine wp_iretK (pc := 74) dX12_sumFrom_74 rfl (by first | rfl | decide | assumption) ?_
        refine wp_ireturn (pc := 42) dX12_proof_42 rfl (by first | rfl | decide | assumption) ?_
        refine qEq ?_ (k' _ hI)
        rw [hR.2 2 (by omega) (by omega), hR.2 (2 * 2) (by omega) (by omega), hR.2 (2 * 2 + 1) (by omega) (by omega)]
        rw [← (hR.1 0 (by omega)).1, ← (hR.1 1 (by omega)).1, ← (hR.1 2 (by omega)).1, ← (hR.1 3 (by omega)).1]
      | 6, _, 0, _ =>
        refine wp_iload_n (pc := 0) dX11_proof_0 (by first | rfl | assumption | (repeat first | assumption | rfl | refine aG_n ?_ rfl rfl)) ?_
        refine wp_iconst (pc := 1) (v := 0) dX11_proof_1 (by decide) ?_
        refine wp_bipush (pc := 2) (v := 7) dX11_proof_2 (by decide) ?_
        refine wp_cS (pc := 4) dX11_proof_4 lk_11_112 rfl rfl rfl (c_X11_isWithin (fun _ => aK_i ?_) (fun q => absurd c1 q))
        refine wp_if_eq (pc := 7) (tgt := 19) dX11_proof_7 rfl (fun q => absurd q (by decide)) (fun _ => ?_)
        refine wp_iload_n (pc := 10) dX11_proof_10 (by first | rfl | assumption | (repeat first | assumption | rfl | refine aG_n ?_ rfl rfl)) ?_
        refine wp_iconst (pc := 11) (v := 0) dX11_proof_11 (by decide) ?_
        refine wp_iconst (pc := 12) (v := 2) dX11_proof_12 (by decide) ?_
        refine wp_cS (pc := 13) dX11_proof_13 lk_11_112 rfl rfl rfl (c_X11_isWithin (fun _ => aK_i ?_) (fun q => absurd c2 q))
        refine wp_if_ne (pc := 16) (tgt := 21) dX11_proof_16 rfl (fun _ => ?_) (fun q => absurd q (by decide))
        refine wp_aload_n (pc := 21) dX11_proof_21 (by first | rfl | assumption | (repeat first | assumption | rfl | refine aG_n ?_ rfl rfl)) ?_
        refine wp_getR (pc := 22) dX11_proof_22 fl_11_60 (by first | rfl | assumption | exact sh_house (by omega) | exact sh_wish (by omega) | exact sh_wor (by omega) | exact sh_bar (by omega) | exact sh_term (by omega) | exact sh_sheet (by omega) | exact sh_items (by omega) | exact sh_sums (by omega)) rfl ?_
        refine wp_iload_n (pc := 25) dX11_proof_25 (by first | rfl | assumption | (repeat first | assumption | rfl | refine aG_n ?_ rfl rfl)) ?_
        refine wp_iload_n (pc := 26) dX11_proof_26 (by first | rfl | assumption | (repeat first | assumption | rfl | refine aG_n ?_ rfl rfl)) ?_
        refine wp_cV (pc := 27) dX11_proof_27 lk_11_352 rfl (by decide) rfl (by first | rfl | assumption | exact sh_house (by omega) | exact sh_wish (by omega) | exact sh_wor (by omega) | exact sh_bar (by omega) | exact sh_term (by omega) | exact sh_sheet (by omega) | exact sh_items (by omega) | exact sh_sums (by omega)) rfl rfl ?_
        refine wp_aload_n (pc := 0) dX5_beside_0 (by first | rfl | assumption | (repeat first | assumption | rfl | refine aG_n ?_ rfl rfl)) ?_
        refine wp_getR (pc := 1) dX5_beside_1 fl_5_9 (by first | rfl | assumption | exact sh_house (by omega) | exact sh_wish (by omega) | exact sh_wor (by omega) | exact sh_bar (by omega) | exact sh_term (by omega) | exact sh_sheet (by omega) | exact sh_items (by omega) | exact sh_sums (by omega)) rfl ?_
        refine wp_bipush (pc := 4) (v := 8) dX5_beside_4 (by decide) ?_
        refine wp_iload_n (pc := 6) dX5_beside_6 (by first | rfl | assumption | (repeat first | assumption | rfl | refine aG_n ?_ rfl rfl)) ?_
        refine wp_iadd (pc := 7) dX5_beside_7 ?_
        refine wp_iload_n (pc := 8) dX5_beside_8 (by first | rfl | assumption | (repeat first | assumption | rfl | refine aG_n ?_ rfl rfl)) ?_
        refine wp_ishr (pc := 9) dX5_beside_9 ?_
        refine wp_iconst (pc := 10) (v := 1) dX5_beside_10 (by decide) ?_
        refine wp_ixor (pc := 11) dX5_beside_11 ?_
        refine wp_ialdC (pc := 12) (j := 15) dX5_beside_12 (by first | rfl | assumption | exact sh_house (by omega) | exact sh_wish (by omega) | exact sh_wor (by omega) | exact sh_bar (by omega) | exact sh_term (by omega) | exact sh_sheet (by omega) | exact sh_items (by omega) | exact sh_sums (by omega)) (by decide) (by decide) ?_
        refine wp_iretK (pc := 13) dX5_beside_13 rfl (by first | rfl | decide | assumption) ?_
        refine wp_ireturn (pc := 30) dX11_proof_30 rfl (by first | rfl | decide | assumption) ?_
        refine k _ _ (fun Q' k' => ?_)
        refine wp_iload_n (pc := 0) dX12_proof_0 (by first | rfl | assumption | (repeat first | assumption | rfl | refine aG_n ?_ rfl rfl)) ?_
        refine wp_i2l (pc := 1) dX12_proof_1 ?_
        refine wp_lconst (pc := 2) (v := 0) dX12_proof_2 (by decide) ?_
        refine wp_ldc2 (pc := 3) dX12_proof_3 cl_12_347 ?_
        refine wp_cS (pc := 6) dX12_proof_6 lk_12_133 rfl rfl rfl (c_X12_in (fun _ => aK_i ?_) (fun q => absurd (by rw [w_int]; exact c1) q))
        refine wp_if_eq (pc := 9) (tgt := 24) dX12_proof_9 rfl (fun q => absurd q (by decide)) (fun _ => ?_)
        refine wp_iload_n (pc := 12) dX12_proof_12 (by first | rfl | assumption | (repeat first | assumption | rfl | refine aG_n ?_ rfl rfl)) ?_
        refine wp_i2l (pc := 13) dX12_proof_13 ?_
        refine wp_lconst (pc := 14) (v := 0) dX12_proof_14 (by decide) ?_
        refine wp_ldc2 (pc := 15) dX12_proof_15 cl_12_212 ?_
        refine wp_cS (pc := 18) dX12_proof_18 lk_12_133 rfl rfl rfl (c_X12_in (fun _ => aK_i ?_) (fun q => absurd (by rw [w_int]; exact c2) q))
        refine wp_if_ne (pc := 21) (tgt := 26) dX12_proof_21 rfl (fun _ => ?_) (fun q => absurd q (by decide))
        refine wp_iconst (pc := 26) (v := 1) dX12_proof_26 (by decide) ?_
        refine wp_iload_n (pc := 27) dX12_proof_27 (by first | rfl | assumption | (repeat first | assumption | rfl | refine aG_n ?_ rfl rfl)) ?_
        refine wp_ishl (pc := 28) dX12_proof_28 ?_
        refine wp_istore_n (pc := 29) dX12_proof_29 (by decide) ?_
        refine wp_aload_n (pc := 30) dX12_proof_30 (by first | rfl | assumption | (repeat first | assumption | rfl | refine aG_n ?_ rfl rfl)) ?_
        refine wp_iload_n (pc := 31) dX12_proof_31 (by first | rfl | assumption | (repeat first | assumption | rfl | refine aG_n ?_ rfl rfl)) ?_
        refine wp_iload_n (pc := 32) dX12_proof_32 (by first | rfl | assumption | (repeat first | assumption | rfl | refine aG_n ?_ rfl rfl)) ?_
        refine wp_idiv (pc := 33) dX12_proof_33 (by decide) ?_
        refine wp_iconst (pc := 34) (v := 1) dX12_proof_34 (by decide) ?_
        refine wp_ixor (pc := 35) dX12_proof_35 ?_
        refine wp_iload_n (pc := 36) dX12_proof_36 (by first | rfl | assumption | (repeat first | assumption | rfl | refine aG_n ?_ rfl rfl)) ?_
        refine wp_imul (pc := 37) dX12_proof_37 ?_
        refine wp_iload_n (pc := 38) dX12_proof_38 (by first | rfl | assumption | (repeat first | assumption | rfl | refine aG_n ?_ rfl rfl)) ?_
        refine wp_cV (pc := 39) dX12_proof_39 lk_12_349 rfl (by decide) rfl (by first | rfl | assumption | exact sh_house (by omega) | exact sh_wish (by omega) | exact sh_wor (by omega) | exact sh_bar (by omega) | exact sh_term (by omega) | exact sh_sheet (by omega) | exact sh_items (by omega) | exact sh_sums (by omega)) rfl rfl ?_
        refine wp_aload_n (pc := 0) dX12_sumFrom_0 (by first | rfl | assumption | (repeat first | assumption | rfl | refine aG_n ?_ rfl rfl)) ?_
        refine wp_getR (pc := 1) dX12_sumFrom_1 fl_12_119 (by first | rfl | assumption | exact sh_house (by omega) | exact sh_wish (by omega) | exact sh_wor (by omega) | exact sh_bar (by omega) | exact sh_term (by omega) | exact sh_sheet (by omega) | exact sh_items (by omega) | exact sh_sums (by omega)) rfl ?_
        refine wp_iload_n (pc := 4) dX12_sumFrom_4 (by first | rfl | assumption | (repeat first | assumption | rfl | refine aG_n ?_ rfl rfl)) ?_
        refine wp_ialdC (pc := 5) (j := 7) dX12_sumFrom_5 (by first | rfl | assumption | exact sh_house (by omega) | exact sh_wish (by omega) | exact sh_wor (by omega) | exact sh_bar (by omega) | exact sh_term (by omega) | exact sh_sheet (by omega) | exact sh_items (by omega) | exact sh_sums (by omega)) (by decide) (by decide) ?_
        refine wp_aload_n (pc := 6) dX12_sumFrom_6 (by first | rfl | assumption | (repeat first | assumption | rfl | refine aG_n ?_ rfl rfl)) ?_
        refine wp_getR (pc := 7) dX12_sumFrom_7 fl_12_119 (by first | rfl | assumption | exact sh_house (by omega) | exact sh_wish (by omega) | exact sh_wor (by omega) | exact sh_bar (by omega) | exact sh_term (by omega) | exact sh_sheet (by omega) | exact sh_items (by omega) | exact sh_sums (by omega)) rfl ?_
        refine wp_iload_n (pc := 10) dX12_sumFrom_10 (by first | rfl | assumption | (repeat first | assumption | rfl | refine aG_n ?_ rfl rfl)) ?_
        refine wp_iconst (pc := 11) (v := 1) dX12_sumFrom_11 (by decide) ?_
        refine wp_iadd (pc := 12) dX12_sumFrom_12 ?_
        refine wp_bipush (pc := 13) (v := 8) dX12_sumFrom_13 (by decide) ?_
        refine wp_irem (pc := 15) dX12_sumFrom_15 (by decide) ?_
        refine wp_ialdC (pc := 16) (j := 0) dX12_sumFrom_16 (by first | rfl | assumption | exact sh_house (by omega) | exact sh_wish (by omega) | exact sh_wor (by omega) | exact sh_bar (by omega) | exact sh_term (by omega) | exact sh_sheet (by omega) | exact sh_items (by omega) | exact sh_sums (by omega)) (by decide) (by decide) ?_
        refine wp_cS (pc := 17) dX12_sumFrom_17 lk_12_344 rfl rfl rfl (c_X12_sumOf (aK_i ?_))
        refine wp_istore_n (pc := 20) dX12_sumFrom_20 (by decide) ?_
        refine wp_iload_n (pc := 21) dX12_sumFrom_21 (by first | rfl | assumption | (repeat first | assumption | rfl | refine aG_n ?_ rfl rfl)) ?_
        refine wp_iconst (pc := 22) (v := 4) dX12_sumFrom_22 (by decide) ?_
        refine wp_icmp_ge (pc := 23) (tgt := 42) dX12_sumFrom_23 rfl (fun q => absurd q (by decide)) (fun _ => ?_)
        refine wp_iload_n (pc := 26) dX12_sumFrom_26 (by first | rfl | assumption | (repeat first | assumption | rfl | refine aG_n ?_ rfl rfl)) ?_
        refine wp_iconst (pc := 27) (v := 1) dX12_sumFrom_27 (by decide) ?_
        refine wp_icmp_ne (pc := 28) (tgt := 40) dX12_sumFrom_28 rfl (fun q => absurd q (by decide)) (fun _ => ?_)
        refine wp_aload_n (pc := 31) dX12_sumFrom_31 (by first | rfl | assumption | (repeat first | assumption | rfl | refine aG_n ?_ rfl rfl)) ?_
        refine wp_getR (pc := 32) dX12_sumFrom_32 fl_12_119 (by first | rfl | assumption | exact sh_house (by omega) | exact sh_wish (by omega) | exact sh_wor (by omega) | exact sh_bar (by omega) | exact sh_term (by omega) | exact sh_sheet (by omega) | exact sh_items (by omega) | exact sh_sums (by omega)) rfl ?_
        refine wp_iload_n (pc := 35) dX12_sumFrom_35 (by first | rfl | assumption | (repeat first | assumption | rfl | refine aG_n ?_ rfl rfl)) ?_
        refine wp_ialdC (pc := 36) (j := 7) dX12_sumFrom_36 (by first | rfl | assumption | exact sh_house (by omega) | exact sh_wish (by omega) | exact sh_wor (by omega) | exact sh_bar (by omega) | exact sh_term (by omega) | exact sh_sheet (by omega) | exact sh_items (by omega) | exact sh_sums (by omega)) (by decide) (by decide) ?_
        refine wp_goto (pc := 37) (tgt := 41) dX12_sumFrom_37 rfl ?_
        refine wp_iretK (pc := 41) dX12_sumFrom_41 rfl (by first | rfl | decide | assumption) ?_
        refine wp_ireturn (pc := 42) dX12_proof_42 rfl (by first | rfl | decide | assumption) ?_
        refine qEq ?_ (k' _ hI)
        exact (hR.1 7 (by omega)).1.symm
      | 6, _, 1, _ =>
        refine wp_iload_n (pc := 0) dX11_proof_0 (by first | rfl | assumption | (repeat first | assumption | rfl | refine aG_n ?_ rfl rfl)) ?_
        refine wp_iconst (pc := 1) (v := 0) dX11_proof_1 (by decide) ?_
        refine wp_bipush (pc := 2) (v := 7) dX11_proof_2 (by decide) ?_
        refine wp_cS (pc := 4) dX11_proof_4 lk_11_112 rfl rfl rfl (c_X11_isWithin (fun _ => aK_i ?_) (fun q => absurd c1 q))
        refine wp_if_eq (pc := 7) (tgt := 19) dX11_proof_7 rfl (fun q => absurd q (by decide)) (fun _ => ?_)
        refine wp_iload_n (pc := 10) dX11_proof_10 (by first | rfl | assumption | (repeat first | assumption | rfl | refine aG_n ?_ rfl rfl)) ?_
        refine wp_iconst (pc := 11) (v := 0) dX11_proof_11 (by decide) ?_
        refine wp_iconst (pc := 12) (v := 2) dX11_proof_12 (by decide) ?_
        refine wp_cS (pc := 13) dX11_proof_13 lk_11_112 rfl rfl rfl (c_X11_isWithin (fun _ => aK_i ?_) (fun q => absurd c2 q))
        refine wp_if_ne (pc := 16) (tgt := 21) dX11_proof_16 rfl (fun _ => ?_) (fun q => absurd q (by decide))
        refine wp_aload_n (pc := 21) dX11_proof_21 (by first | rfl | assumption | (repeat first | assumption | rfl | refine aG_n ?_ rfl rfl)) ?_
        refine wp_getR (pc := 22) dX11_proof_22 fl_11_60 (by first | rfl | assumption | exact sh_house (by omega) | exact sh_wish (by omega) | exact sh_wor (by omega) | exact sh_bar (by omega) | exact sh_term (by omega) | exact sh_sheet (by omega) | exact sh_items (by omega) | exact sh_sums (by omega)) rfl ?_
        refine wp_iload_n (pc := 25) dX11_proof_25 (by first | rfl | assumption | (repeat first | assumption | rfl | refine aG_n ?_ rfl rfl)) ?_
        refine wp_iload_n (pc := 26) dX11_proof_26 (by first | rfl | assumption | (repeat first | assumption | rfl | refine aG_n ?_ rfl rfl)) ?_
        refine wp_cV (pc := 27) dX11_proof_27 lk_11_352 rfl (by decide) rfl (by first | rfl | assumption | exact sh_house (by omega) | exact sh_wish (by omega) | exact sh_wor (by omega) | exact sh_bar (by omega) | exact sh_term (by omega) | exact sh_sheet (by omega) | exact sh_items (by omega) | exact sh_sums (by omega)) rfl rfl ?_
        refine wp_aload_n (pc := 0) dX5_beside_0 (by first | rfl | assumption | (repeat first | assumption | rfl | refine aG_n ?_ rfl rfl)) ?_
        refine wp_getR (pc := 1) dX5_beside_1 fl_5_9 (by first | rfl | assumption | exact sh_house (by omega) | exact sh_wish (by omega) | exact sh_wor (by omega) | exact sh_bar (by omega) | exact sh_term (by omega) | exact sh_sheet (by omega) | exact sh_items (by omega) | exact sh_sums (by omega)) rfl ?_
        refine wp_bipush (pc := 4) (v := 8) dX5_beside_4 (by decide) ?_
        refine wp_iload_n (pc := 6) dX5_beside_6 (by first | rfl | assumption | (repeat first | assumption | rfl | refine aG_n ?_ rfl rfl)) ?_
        refine wp_iadd (pc := 7) dX5_beside_7 ?_
        refine wp_iload_n (pc := 8) dX5_beside_8 (by first | rfl | assumption | (repeat first | assumption | rfl | refine aG_n ?_ rfl rfl)) ?_
        refine wp_ishr (pc := 9) dX5_beside_9 ?_
        refine wp_iconst (pc := 10) (v := 1) dX5_beside_10 (by decide) ?_
        refine wp_ixor (pc := 11) dX5_beside_11 ?_
        refine wp_ialdC (pc := 12) (j := 6) dX5_beside_12 (by first | rfl | assumption | exact sh_house (by omega) | exact sh_wish (by omega) | exact sh_wor (by omega) | exact sh_bar (by omega) | exact sh_term (by omega) | exact sh_sheet (by omega) | exact sh_items (by omega) | exact sh_sums (by omega)) (by decide) (by decide) ?_
        refine wp_iretK (pc := 13) dX5_beside_13 rfl (by first | rfl | decide | assumption) ?_
        refine wp_ireturn (pc := 30) dX11_proof_30 rfl (by first | rfl | decide | assumption) ?_
        refine k _ _ (fun Q' k' => ?_)
        refine wp_iload_n (pc := 0) dX12_proof_0 (by first | rfl | assumption | (repeat first | assumption | rfl | refine aG_n ?_ rfl rfl)) ?_
        refine wp_i2l (pc := 1) dX12_proof_1 ?_
        refine wp_lconst (pc := 2) (v := 0) dX12_proof_2 (by decide) ?_
        refine wp_ldc2 (pc := 3) dX12_proof_3 cl_12_347 ?_
        refine wp_cS (pc := 6) dX12_proof_6 lk_12_133 rfl rfl rfl (c_X12_in (fun _ => aK_i ?_) (fun q => absurd (by rw [w_int]; exact c1) q))
        refine wp_if_eq (pc := 9) (tgt := 24) dX12_proof_9 rfl (fun q => absurd q (by decide)) (fun _ => ?_)
        refine wp_iload_n (pc := 12) dX12_proof_12 (by first | rfl | assumption | (repeat first | assumption | rfl | refine aG_n ?_ rfl rfl)) ?_
        refine wp_i2l (pc := 13) dX12_proof_13 ?_
        refine wp_lconst (pc := 14) (v := 0) dX12_proof_14 (by decide) ?_
        refine wp_ldc2 (pc := 15) dX12_proof_15 cl_12_212 ?_
        refine wp_cS (pc := 18) dX12_proof_18 lk_12_133 rfl rfl rfl (c_X12_in (fun _ => aK_i ?_) (fun q => absurd (by rw [w_int]; exact c2) q))
        refine wp_if_ne (pc := 21) (tgt := 26) dX12_proof_21 rfl (fun _ => ?_) (fun q => absurd q (by decide))
        refine wp_iconst (pc := 26) (v := 1) dX12_proof_26 (by decide) ?_
        refine wp_iload_n (pc := 27) dX12_proof_27 (by first | rfl | assumption | (repeat first | assumption | rfl | refine aG_n ?_ rfl rfl)) ?_
        refine wp_ishl (pc := 28) dX12_proof_28 ?_
        refine wp_istore_n (pc := 29) dX12_proof_29 (by decide) ?_
        refine wp_aload_n (pc := 30) dX12_proof_30 (by first | rfl | assumption | (repeat first | assumption | rfl | refine aG_n ?_ rfl rfl)) ?_
        refine wp_iload_n (pc := 31) dX12_proof_31 (by first | rfl | assumption | (repeat first | assumption | rfl | refine aG_n ?_ rfl rfl)) ?_
        refine wp_iload_n (pc := 32) dX12_proof_32 (by first | rfl | assumption | (repeat first | assumption | rfl | refine aG_n ?_ rfl rfl)) ?_
        refine wp_idiv (pc := 33) dX12_proof_33 (by decide) ?_
        refine wp_iconst (pc := 34) (v := 1) dX12_proof_34 (by decide) ?_
        refine wp_ixor (pc := 35) dX12_proof_35 ?_
        refine wp_iload_n (pc := 36) dX12_proof_36 (by first | rfl | assumption | (repeat first | assumption | rfl | refine aG_n ?_ rfl rfl)) ?_
        refine wp_imul (pc := 37) dX12_proof_37 ?_
        refine wp_iload_n (pc := 38) dX12_proof_38 (by first | rfl | assumption | (repeat first | assumption | rfl | refine aG_n ?_ rfl rfl)) ?_
        refine wp_cV (pc := 39) dX12_proof_39 lk_12_349 rfl (by decide) rfl (by first | rfl | assumption | exact sh_house (by omega) | exact sh_wish (by omega) | exact sh_wor (by omega) | exact sh_bar (by omega) | exact sh_term (by omega) | exact sh_sheet (by omega) | exact sh_items (by omega) | exact sh_sums (by omega)) rfl rfl ?_
        refine wp_aload_n (pc := 0) dX12_sumFrom_0 (by first | rfl | assumption | (repeat first | assumption | rfl | refine aG_n ?_ rfl rfl)) ?_
        refine wp_getR (pc := 1) dX12_sumFrom_1 fl_12_119 (by first | rfl | assumption | exact sh_house (by omega) | exact sh_wish (by omega) | exact sh_wor (by omega) | exact sh_bar (by omega) | exact sh_term (by omega) | exact sh_sheet (by omega) | exact sh_items (by omega) | exact sh_sums (by omega)) rfl ?_
        refine wp_iload_n (pc := 4) dX12_sumFrom_4 (by first | rfl | assumption | (repeat first | assumption | rfl | refine aG_n ?_ rfl rfl)) ?_
        refine wp_ialdC (pc := 5) (j := 4) dX12_sumFrom_5 (by first | rfl | assumption | exact sh_house (by omega) | exact sh_wish (by omega) | exact sh_wor (by omega) | exact sh_bar (by omega) | exact sh_term (by omega) | exact sh_sheet (by omega) | exact sh_items (by omega) | exact sh_sums (by omega)) (by decide) (by decide) ?_
        refine wp_aload_n (pc := 6) dX12_sumFrom_6 (by first | rfl | assumption | (repeat first | assumption | rfl | refine aG_n ?_ rfl rfl)) ?_
        refine wp_getR (pc := 7) dX12_sumFrom_7 fl_12_119 (by first | rfl | assumption | exact sh_house (by omega) | exact sh_wish (by omega) | exact sh_wor (by omega) | exact sh_bar (by omega) | exact sh_term (by omega) | exact sh_sheet (by omega) | exact sh_items (by omega) | exact sh_sums (by omega)) rfl ?_
        refine wp_iload_n (pc := 10) dX12_sumFrom_10 (by first | rfl | assumption | (repeat first | assumption | rfl | refine aG_n ?_ rfl rfl)) ?_
        refine wp_iconst (pc := 11) (v := 1) dX12_sumFrom_11 (by decide) ?_
        refine wp_iadd (pc := 12) dX12_sumFrom_12 ?_
        refine wp_bipush (pc := 13) (v := 8) dX12_sumFrom_13 (by decide) ?_
        refine wp_irem (pc := 15) dX12_sumFrom_15 (by decide) ?_
        refine wp_ialdC (pc := 16) (j := 5) dX12_sumFrom_16 (by first | rfl | assumption | exact sh_house (by omega) | exact sh_wish (by omega) | exact sh_wor (by omega) | exact sh_bar (by omega) | exact sh_term (by omega) | exact sh_sheet (by omega) | exact sh_items (by omega) | exact sh_sums (by omega)) (by decide) (by decide) ?_
        refine wp_cS (pc := 17) dX12_sumFrom_17 lk_12_344 rfl rfl rfl (c_X12_sumOf (aK_i ?_))
        refine wp_istore_n (pc := 20) dX12_sumFrom_20 (by decide) ?_
        refine wp_iload_n (pc := 21) dX12_sumFrom_21 (by first | rfl | assumption | (repeat first | assumption | rfl | refine aG_n ?_ rfl rfl)) ?_
        refine wp_iconst (pc := 22) (v := 4) dX12_sumFrom_22 (by decide) ?_
        refine wp_icmp_ge (pc := 23) (tgt := 42) dX12_sumFrom_23 rfl (fun q => absurd q (by decide)) (fun _ => ?_)
        refine wp_iload_n (pc := 26) dX12_sumFrom_26 (by first | rfl | assumption | (repeat first | assumption | rfl | refine aG_n ?_ rfl rfl)) ?_
        refine wp_iconst (pc := 27) (v := 1) dX12_sumFrom_27 (by decide) ?_
        refine wp_icmp_ne (pc := 28) (tgt := 40) dX12_sumFrom_28 rfl (fun _ => ?_) (fun q => absurd q (by decide))
        refine wp_iload_n (pc := 40) dX12_sumFrom_40 (by first | rfl | assumption | (repeat first | assumption | rfl | refine aG_n ?_ rfl rfl)) ?_
        refine wp_iretK (pc := 41) dX12_sumFrom_41 rfl (by first | rfl | decide | assumption) ?_
        refine wp_ireturn (pc := 42) dX12_proof_42 rfl (by first | rfl | decide | assumption) ?_
        refine qEq ?_ (k' _ hI)
        rw [hR.2 6 (by omega) (by omega)]
        rw [← (hR.1 4 (by omega)).1, ← (hR.1 5 (by omega)).1]
      | 6, _, 2, _ =>
        refine wp_iload_n (pc := 0) dX11_proof_0 (by first | rfl | assumption | (repeat first | assumption | rfl | refine aG_n ?_ rfl rfl)) ?_
        refine wp_iconst (pc := 1) (v := 0) dX11_proof_1 (by decide) ?_
        refine wp_bipush (pc := 2) (v := 7) dX11_proof_2 (by decide) ?_
        refine wp_cS (pc := 4) dX11_proof_4 lk_11_112 rfl rfl rfl (c_X11_isWithin (fun _ => aK_i ?_) (fun q => absurd c1 q))
        refine wp_if_eq (pc := 7) (tgt := 19) dX11_proof_7 rfl (fun q => absurd q (by decide)) (fun _ => ?_)
        refine wp_iload_n (pc := 10) dX11_proof_10 (by first | rfl | assumption | (repeat first | assumption | rfl | refine aG_n ?_ rfl rfl)) ?_
        refine wp_iconst (pc := 11) (v := 0) dX11_proof_11 (by decide) ?_
        refine wp_iconst (pc := 12) (v := 2) dX11_proof_12 (by decide) ?_
        refine wp_cS (pc := 13) dX11_proof_13 lk_11_112 rfl rfl rfl (c_X11_isWithin (fun _ => aK_i ?_) (fun q => absurd c2 q))
        refine wp_if_ne (pc := 16) (tgt := 21) dX11_proof_16 rfl (fun _ => ?_) (fun q => absurd q (by decide))
        refine wp_aload_n (pc := 21) dX11_proof_21 (by first | rfl | assumption | (repeat first | assumption | rfl | refine aG_n ?_ rfl rfl)) ?_
        refine wp_getR (pc := 22) dX11_proof_22 fl_11_60 (by first | rfl | assumption | exact sh_house (by omega) | exact sh_wish (by omega) | exact sh_wor (by omega) | exact sh_bar (by omega) | exact sh_term (by omega) | exact sh_sheet (by omega) | exact sh_items (by omega) | exact sh_sums (by omega)) rfl ?_
        refine wp_iload_n (pc := 25) dX11_proof_25 (by first | rfl | assumption | (repeat first | assumption | rfl | refine aG_n ?_ rfl rfl)) ?_
        refine wp_iload_n (pc := 26) dX11_proof_26 (by first | rfl | assumption | (repeat first | assumption | rfl | refine aG_n ?_ rfl rfl)) ?_
        refine wp_cV (pc := 27) dX11_proof_27 lk_11_352 rfl (by decide) rfl (by first | rfl | assumption | exact sh_house (by omega) | exact sh_wish (by omega) | exact sh_wor (by omega) | exact sh_bar (by omega) | exact sh_term (by omega) | exact sh_sheet (by omega) | exact sh_items (by omega) | exact sh_sums (by omega)) rfl rfl ?_
        refine wp_aload_n (pc := 0) dX5_beside_0 (by first | rfl | assumption | (repeat first | assumption | rfl | refine aG_n ?_ rfl rfl)) ?_
        refine wp_getR (pc := 1) dX5_beside_1 fl_5_9 (by first | rfl | assumption | exact sh_house (by omega) | exact sh_wish (by omega) | exact sh_wor (by omega) | exact sh_bar (by omega) | exact sh_term (by omega) | exact sh_sheet (by omega) | exact sh_items (by omega) | exact sh_sums (by omega)) rfl ?_
        refine wp_bipush (pc := 4) (v := 8) dX5_beside_4 (by decide) ?_
        refine wp_iload_n (pc := 6) dX5_beside_6 (by first | rfl | assumption | (repeat first | assumption | rfl | refine aG_n ?_ rfl rfl)) ?_
        refine wp_iadd (pc := 7) dX5_beside_7 ?_
        refine wp_iload_n (pc := 8) dX5_beside_8 (by first | rfl | assumption | (repeat first | assumption | rfl | refine aG_n ?_ rfl rfl)) ?_
        refine wp_ishr (pc := 9) dX5_beside_9 ?_
        refine wp_iconst (pc := 10) (v := 1) dX5_beside_10 (by decide) ?_
        refine wp_ixor (pc := 11) dX5_beside_11 ?_
        refine wp_ialdC (pc := 12) (j := 2) dX5_beside_12 (by first | rfl | assumption | exact sh_house (by omega) | exact sh_wish (by omega) | exact sh_wor (by omega) | exact sh_bar (by omega) | exact sh_term (by omega) | exact sh_sheet (by omega) | exact sh_items (by omega) | exact sh_sums (by omega)) (by decide) (by decide) ?_
        refine wp_iretK (pc := 13) dX5_beside_13 rfl (by first | rfl | decide | assumption) ?_
        refine wp_ireturn (pc := 30) dX11_proof_30 rfl (by first | rfl | decide | assumption) ?_
        refine k _ _ (fun Q' k' => ?_)
        refine wp_iload_n (pc := 0) dX12_proof_0 (by first | rfl | assumption | (repeat first | assumption | rfl | refine aG_n ?_ rfl rfl)) ?_
        refine wp_i2l (pc := 1) dX12_proof_1 ?_
        refine wp_lconst (pc := 2) (v := 0) dX12_proof_2 (by decide) ?_
        refine wp_ldc2 (pc := 3) dX12_proof_3 cl_12_347 ?_
        refine wp_cS (pc := 6) dX12_proof_6 lk_12_133 rfl rfl rfl (c_X12_in (fun _ => aK_i ?_) (fun q => absurd (by rw [w_int]; exact c1) q))
        refine wp_if_eq (pc := 9) (tgt := 24) dX12_proof_9 rfl (fun q => absurd q (by decide)) (fun _ => ?_)
        refine wp_iload_n (pc := 12) dX12_proof_12 (by first | rfl | assumption | (repeat first | assumption | rfl | refine aG_n ?_ rfl rfl)) ?_
        refine wp_i2l (pc := 13) dX12_proof_13 ?_
        refine wp_lconst (pc := 14) (v := 0) dX12_proof_14 (by decide) ?_
        refine wp_ldc2 (pc := 15) dX12_proof_15 cl_12_212 ?_
        refine wp_cS (pc := 18) dX12_proof_18 lk_12_133 rfl rfl rfl (c_X12_in (fun _ => aK_i ?_) (fun q => absurd (by rw [w_int]; exact c2) q))
        refine wp_if_ne (pc := 21) (tgt := 26) dX12_proof_21 rfl (fun _ => ?_) (fun q => absurd q (by decide))
        refine wp_iconst (pc := 26) (v := 1) dX12_proof_26 (by decide) ?_
        refine wp_iload_n (pc := 27) dX12_proof_27 (by first | rfl | assumption | (repeat first | assumption | rfl | refine aG_n ?_ rfl rfl)) ?_
        refine wp_ishl (pc := 28) dX12_proof_28 ?_
        refine wp_istore_n (pc := 29) dX12_proof_29 (by decide) ?_
        refine wp_aload_n (pc := 30) dX12_proof_30 (by first | rfl | assumption | (repeat first | assumption | rfl | refine aG_n ?_ rfl rfl)) ?_
        refine wp_iload_n (pc := 31) dX12_proof_31 (by first | rfl | assumption | (repeat first | assumption | rfl | refine aG_n ?_ rfl rfl)) ?_
        refine wp_iload_n (pc := 32) dX12_proof_32 (by first | rfl | assumption | (repeat first | assumption | rfl | refine aG_n ?_ rfl rfl)) ?_
        refine wp_idiv (pc := 33) dX12_proof_33 (by decide) ?_
        refine wp_iconst (pc := 34) (v := 1) dX12_proof_34 (by decide) ?_
        refine wp_ixor (pc := 35) dX12_proof_35 ?_
        refine wp_iload_n (pc := 36) dX12_proof_36 (by first | rfl | assumption | (repeat first | assumption | rfl | refine aG_n ?_ rfl rfl)) ?_
        refine wp_imul (pc := 37) dX12_proof_37 ?_
        refine wp_iload_n (pc := 38) dX12_proof_38 (by first | rfl | assumption | (repeat first | assumption | rfl | refine aG_n ?_ rfl rfl)) ?_
        refine wp_cV (pc := 39) dX12_proof_39 lk_12_349 rfl (by decide) rfl (by first | rfl | assumption | exact sh_house (by omega) | exact sh_wish (by omega) | exact sh_wor (by omega) | exact sh_bar (by omega) | exact sh_term (by omega) | exact sh_sheet (by omega) | exact sh_items (by omega) | exact sh_sums (by omega)) rfl rfl ?_
        refine wp_aload_n (pc := 0) dX12_sumFrom_0 (by first | rfl | assumption | (repeat first | assumption | rfl | refine aG_n ?_ rfl rfl)) ?_
        refine wp_getR (pc := 1) dX12_sumFrom_1 fl_12_119 (by first | rfl | assumption | exact sh_house (by omega) | exact sh_wish (by omega) | exact sh_wor (by omega) | exact sh_bar (by omega) | exact sh_term (by omega) | exact sh_sheet (by omega) | exact sh_items (by omega) | exact sh_sums (by omega)) rfl ?_
        refine wp_iload_n (pc := 4) dX12_sumFrom_4 (by first | rfl | assumption | (repeat first | assumption | rfl | refine aG_n ?_ rfl rfl)) ?_
        refine wp_ialdC (pc := 5) (j := 0) dX12_sumFrom_5 (by first | rfl | assumption | exact sh_house (by omega) | exact sh_wish (by omega) | exact sh_wor (by omega) | exact sh_bar (by omega) | exact sh_term (by omega) | exact sh_sheet (by omega) | exact sh_items (by omega) | exact sh_sums (by omega)) (by decide) (by decide) ?_
        refine wp_aload_n (pc := 6) dX12_sumFrom_6 (by first | rfl | assumption | (repeat first | assumption | rfl | refine aG_n ?_ rfl rfl)) ?_
        refine wp_getR (pc := 7) dX12_sumFrom_7 fl_12_119 (by first | rfl | assumption | exact sh_house (by omega) | exact sh_wish (by omega) | exact sh_wor (by omega) | exact sh_bar (by omega) | exact sh_term (by omega) | exact sh_sheet (by omega) | exact sh_items (by omega) | exact sh_sums (by omega)) rfl ?_
        refine wp_iload_n (pc := 10) dX12_sumFrom_10 (by first | rfl | assumption | (repeat first | assumption | rfl | refine aG_n ?_ rfl rfl)) ?_
        refine wp_iconst (pc := 11) (v := 1) dX12_sumFrom_11 (by decide) ?_
        refine wp_iadd (pc := 12) dX12_sumFrom_12 ?_
        refine wp_bipush (pc := 13) (v := 8) dX12_sumFrom_13 (by decide) ?_
        refine wp_irem (pc := 15) dX12_sumFrom_15 (by decide) ?_
        refine wp_ialdC (pc := 16) (j := 1) dX12_sumFrom_16 (by first | rfl | assumption | exact sh_house (by omega) | exact sh_wish (by omega) | exact sh_wor (by omega) | exact sh_bar (by omega) | exact sh_term (by omega) | exact sh_sheet (by omega) | exact sh_items (by omega) | exact sh_sums (by omega)) (by decide) (by decide) ?_
        refine wp_cS (pc := 17) dX12_sumFrom_17 lk_12_344 rfl rfl rfl (c_X12_sumOf (aK_i ?_))
        refine wp_istore_n (pc := 20) dX12_sumFrom_20 (by decide) ?_
        refine wp_iload_n (pc := 21) dX12_sumFrom_21 (by first | rfl | assumption | (repeat first | assumption | rfl | refine aG_n ?_ rfl rfl)) ?_
        refine wp_iconst (pc := 22) (v := 4) dX12_sumFrom_22 (by decide) ?_
        refine wp_icmp_ge (pc := 23) (tgt := 42) dX12_sumFrom_23 rfl (fun _ => ?_) (fun q => absurd q (by decide))
        refine wp_iload_n (pc := 42) dX12_sumFrom_42 (by first | rfl | assumption | (repeat first | assumption | rfl | refine aG_n ?_ rfl rfl)) ?_
        refine wp_aload_n (pc := 43) dX12_sumFrom_43 (by first | rfl | assumption | (repeat first | assumption | rfl | refine aG_n ?_ rfl rfl)) ?_
        refine wp_getR (pc := 44) dX12_sumFrom_44 fl_12_119 (by first | rfl | assumption | exact sh_house (by omega) | exact sh_wish (by omega) | exact sh_wor (by omega) | exact sh_bar (by omega) | exact sh_term (by omega) | exact sh_sheet (by omega) | exact sh_items (by omega) | exact sh_sums (by omega)) rfl ?_
        refine wp_iload_n (pc := 47) dX12_sumFrom_47 (by first | rfl | assumption | (repeat first | assumption | rfl | refine aG_n ?_ rfl rfl)) ?_
        refine wp_iconst (pc := 48) (v := 2) dX12_sumFrom_48 (by decide) ?_
        refine wp_iadd (pc := 49) dX12_sumFrom_49 ?_
        refine wp_ialdC (pc := 50) (j := 2) dX12_sumFrom_50 (by first | rfl | assumption | exact sh_house (by omega) | exact sh_wish (by omega) | exact sh_wor (by omega) | exact sh_bar (by omega) | exact sh_term (by omega) | exact sh_sheet (by omega) | exact sh_items (by omega) | exact sh_sums (by omega)) (by decide) (by decide) ?_
        refine wp_aload_n (pc := 51) dX12_sumFrom_51 (by first | rfl | assumption | (repeat first | assumption | rfl | refine aG_n ?_ rfl rfl)) ?_
        refine wp_getR (pc := 52) dX12_sumFrom_52 fl_12_119 (by first | rfl | assumption | exact sh_house (by omega) | exact sh_wish (by omega) | exact sh_wor (by omega) | exact sh_bar (by omega) | exact sh_term (by omega) | exact sh_sheet (by omega) | exact sh_items (by omega) | exact sh_sums (by omega)) rfl ?_
        refine wp_iload_n (pc := 55) dX12_sumFrom_55 (by first | rfl | assumption | (repeat first | assumption | rfl | refine aG_n ?_ rfl rfl)) ?_
        refine wp_iconst (pc := 56) (v := 3) dX12_sumFrom_56 (by decide) ?_
        refine wp_iadd (pc := 57) dX12_sumFrom_57 ?_
        refine wp_ialdC (pc := 58) (j := 3) dX12_sumFrom_58 (by first | rfl | assumption | exact sh_house (by omega) | exact sh_wish (by omega) | exact sh_wor (by omega) | exact sh_bar (by omega) | exact sh_term (by omega) | exact sh_sheet (by omega) | exact sh_items (by omega) | exact sh_sums (by omega)) (by decide) (by decide) ?_
        refine wp_cS (pc := 59) dX12_sumFrom_59 lk_12_344 rfl rfl rfl (c_X12_sumOf (aK_i ?_))
        refine wp_cS (pc := 62) dX12_sumFrom_62 lk_12_344 rfl rfl rfl (c_X12_sumOf (aK_i ?_))
        refine wp_istore (pc := 65) dX12_sumFrom_65 (by decide) ?_
        refine wp_iload_n (pc := 67) dX12_sumFrom_67 (by first | rfl | assumption | (repeat first | assumption | rfl | refine aG_n ?_ rfl rfl)) ?_
        refine wp_iconst (pc := 68) (v := 4) dX12_sumFrom_68 (by decide) ?_
        refine wp_icmp_ne (pc := 69) (tgt := 75) dX12_sumFrom_69 rfl (fun q => absurd q (by decide)) (fun _ => ?_)
        refine wp_iload (pc := 72) dX12_sumFrom_72 (by first | rfl | assumption | (repeat first | assumption | rfl | refine aG_n ?_ rfl rfl)) ?_
        refine wp_iretK (pc := 74) dX12_sumFrom_74 rfl (by first | rfl | decide | assumption) ?_
        refine wp_ireturn (pc := 42) dX12_proof_42 rfl (by first | rfl | decide | assumption) ?_
        refine qEq ?_ (k' _ hI)
        rw [hR.2 2 (by omega) (by omega), hR.2 (2 * 2) (by omega) (by omega), hR.2 (2 * 2 + 1) (by omega) (by omega)]
        rw [← (hR.1 0 (by omega)).1, ← (hR.1 1 (by omega)).1, ← (hR.1 2 (by omega)).1, ← (hR.1 3 (by omega)).1]
      | 7, _, 0, _ =>
        refine wp_iload_n (pc := 0) dX11_proof_0 (by first | rfl | assumption | (repeat first | assumption | rfl | refine aG_n ?_ rfl rfl)) ?_
        refine wp_iconst (pc := 1) (v := 0) dX11_proof_1 (by decide) ?_
        refine wp_bipush (pc := 2) (v := 7) dX11_proof_2 (by decide) ?_
        refine wp_cS (pc := 4) dX11_proof_4 lk_11_112 rfl rfl rfl (c_X11_isWithin (fun _ => aK_i ?_) (fun q => absurd c1 q))
        refine wp_if_eq (pc := 7) (tgt := 19) dX11_proof_7 rfl (fun q => absurd q (by decide)) (fun _ => ?_)
        refine wp_iload_n (pc := 10) dX11_proof_10 (by first | rfl | assumption | (repeat first | assumption | rfl | refine aG_n ?_ rfl rfl)) ?_
        refine wp_iconst (pc := 11) (v := 0) dX11_proof_11 (by decide) ?_
        refine wp_iconst (pc := 12) (v := 2) dX11_proof_12 (by decide) ?_
        refine wp_cS (pc := 13) dX11_proof_13 lk_11_112 rfl rfl rfl (c_X11_isWithin (fun _ => aK_i ?_) (fun q => absurd c2 q))
        refine wp_if_ne (pc := 16) (tgt := 21) dX11_proof_16 rfl (fun _ => ?_) (fun q => absurd q (by decide))
        refine wp_aload_n (pc := 21) dX11_proof_21 (by first | rfl | assumption | (repeat first | assumption | rfl | refine aG_n ?_ rfl rfl)) ?_
        refine wp_getR (pc := 22) dX11_proof_22 fl_11_60 (by first | rfl | assumption | exact sh_house (by omega) | exact sh_wish (by omega) | exact sh_wor (by omega) | exact sh_bar (by omega) | exact sh_term (by omega) | exact sh_sheet (by omega) | exact sh_items (by omega) | exact sh_sums (by omega)) rfl ?_
        refine wp_iload_n (pc := 25) dX11_proof_25 (by first | rfl | assumption | (repeat first | assumption | rfl | refine aG_n ?_ rfl rfl)) ?_
        refine wp_iload_n (pc := 26) dX11_proof_26 (by first | rfl | assumption | (repeat first | assumption | rfl | refine aG_n ?_ rfl rfl)) ?_
        refine wp_cV (pc := 27) dX11_proof_27 lk_11_352 rfl (by decide) rfl (by first | rfl | assumption | exact sh_house (by omega) | exact sh_wish (by omega) | exact sh_wor (by omega) | exact sh_bar (by omega) | exact sh_term (by omega) | exact sh_sheet (by omega) | exact sh_items (by omega) | exact sh_sums (by omega)) rfl rfl ?_
        refine wp_aload_n (pc := 0) dX5_beside_0 (by first | rfl | assumption | (repeat first | assumption | rfl | refine aG_n ?_ rfl rfl)) ?_
        refine wp_getR (pc := 1) dX5_beside_1 fl_5_9 (by first | rfl | assumption | exact sh_house (by omega) | exact sh_wish (by omega) | exact sh_wor (by omega) | exact sh_bar (by omega) | exact sh_term (by omega) | exact sh_sheet (by omega) | exact sh_items (by omega) | exact sh_sums (by omega)) rfl ?_
        refine wp_bipush (pc := 4) (v := 8) dX5_beside_4 (by decide) ?_
        refine wp_iload_n (pc := 6) dX5_beside_6 (by first | rfl | assumption | (repeat first | assumption | rfl | refine aG_n ?_ rfl rfl)) ?_
        refine wp_iadd (pc := 7) dX5_beside_7 ?_
        refine wp_iload_n (pc := 8) dX5_beside_8 (by first | rfl | assumption | (repeat first | assumption | rfl | refine aG_n ?_ rfl rfl)) ?_
        refine wp_ishr (pc := 9) dX5_beside_9 ?_
        refine wp_iconst (pc := 10) (v := 1) dX5_beside_10 (by decide) ?_
        refine wp_ixor (pc := 11) dX5_beside_11 ?_
        refine wp_ialdC (pc := 12) (j := 14) dX5_beside_12 (by first | rfl | assumption | exact sh_house (by omega) | exact sh_wish (by omega) | exact sh_wor (by omega) | exact sh_bar (by omega) | exact sh_term (by omega) | exact sh_sheet (by omega) | exact sh_items (by omega) | exact sh_sums (by omega)) (by decide) (by decide) ?_
        refine wp_iretK (pc := 13) dX5_beside_13 rfl (by first | rfl | decide | assumption) ?_
        refine wp_ireturn (pc := 30) dX11_proof_30 rfl (by first | rfl | decide | assumption) ?_
        refine k _ _ (fun Q' k' => ?_)
        refine wp_iload_n (pc := 0) dX12_proof_0 (by first | rfl | assumption | (repeat first | assumption | rfl | refine aG_n ?_ rfl rfl)) ?_
        refine wp_i2l (pc := 1) dX12_proof_1 ?_
        refine wp_lconst (pc := 2) (v := 0) dX12_proof_2 (by decide) ?_
        refine wp_ldc2 (pc := 3) dX12_proof_3 cl_12_347 ?_
        refine wp_cS (pc := 6) dX12_proof_6 lk_12_133 rfl rfl rfl (c_X12_in (fun _ => aK_i ?_) (fun q => absurd (by rw [w_int]; exact c1) q))
        refine wp_if_eq (pc := 9) (tgt := 24) dX12_proof_9 rfl (fun q => absurd q (by decide)) (fun _ => ?_)
        refine wp_iload_n (pc := 12) dX12_proof_12 (by first | rfl | assumption | (repeat first | assumption | rfl | refine aG_n ?_ rfl rfl)) ?_
        refine wp_i2l (pc := 13) dX12_proof_13 ?_
        refine wp_lconst (pc := 14) (v := 0) dX12_proof_14 (by decide) ?_
        refine wp_ldc2 (pc := 15) dX12_proof_15 cl_12_212 ?_
        refine wp_cS (pc := 18) dX12_proof_18 lk_12_133 rfl rfl rfl (c_X12_in (fun _ => aK_i ?_) (fun q => absurd (by rw [w_int]; exact c2) q))
        refine wp_if_ne (pc := 21) (tgt := 26) dX12_proof_21 rfl (fun _ => ?_) (fun q => absurd q (by decide))
        refine wp_iconst (pc := 26) (v := 1) dX12_proof_26 (by decide) ?_
        refine wp_iload_n (pc := 27) dX12_proof_27 (by first | rfl | assumption | (repeat first | assumption | rfl | refine aG_n ?_ rfl rfl)) ?_
        refine wp_ishl (pc := 28) dX12_proof_28 ?_
        refine wp_istore_n (pc := 29) dX12_proof_29 (by decide) ?_
        refine wp_aload_n (pc := 30) dX12_proof_30 (by first | rfl | assumption | (repeat first | assumption | rfl | refine aG_n ?_ rfl rfl)) ?_
        refine wp_iload_n (pc := 31) dX12_proof_31 (by first | rfl | assumption | (repeat first | assumption | rfl | refine aG_n ?_ rfl rfl)) ?_
        refine wp_iload_n (pc := 32) dX12_proof_32 (by first | rfl | assumption | (repeat first | assumption | rfl | refine aG_n ?_ rfl rfl)) ?_
        refine wp_idiv (pc := 33) dX12_proof_33 (by decide) ?_
        refine wp_iconst (pc := 34) (v := 1) dX12_proof_34 (by decide) ?_
        refine wp_ixor (pc := 35) dX12_proof_35 ?_
        refine wp_iload_n (pc := 36) dX12_proof_36 (by first | rfl | assumption | (repeat first | assumption | rfl | refine aG_n ?_ rfl rfl)) ?_
        refine wp_imul (pc := 37) dX12_proof_37 ?_
        refine wp_iload_n (pc := 38) dX12_proof_38 (by first | rfl | assumption | (repeat first | assumption | rfl | refine aG_n ?_ rfl rfl)) ?_
        refine wp_cV (pc := 39) dX12_proof_39 lk_12_349 rfl (by decide) rfl (by first | rfl | assumption | exact sh_house (by omega) | exact sh_wish (by omega) | exact sh_wor (by omega) | exact sh_bar (by omega) | exact sh_term (by omega) | exact sh_sheet (by omega) | exact sh_items (by omega) | exact sh_sums (by omega)) rfl rfl ?_
        refine wp_aload_n (pc := 0) dX12_sumFrom_0 (by first | rfl | assumption | (repeat first | assumption | rfl | refine aG_n ?_ rfl rfl)) ?_
        refine wp_getR (pc := 1) dX12_sumFrom_1 fl_12_119 (by first | rfl | assumption | exact sh_house (by omega) | exact sh_wish (by omega) | exact sh_wor (by omega) | exact sh_bar (by omega) | exact sh_term (by omega) | exact sh_sheet (by omega) | exact sh_items (by omega) | exact sh_sums (by omega)) rfl ?_
        refine wp_iload_n (pc := 4) dX12_sumFrom_4 (by first | rfl | assumption | (repeat first | assumption | rfl | refine aG_n ?_ rfl rfl)) ?_
        refine wp_ialdC (pc := 5) (j := 6) dX12_sumFrom_5 (by first | rfl | assumption | exact sh_house (by omega) | exact sh_wish (by omega) | exact sh_wor (by omega) | exact sh_bar (by omega) | exact sh_term (by omega) | exact sh_sheet (by omega) | exact sh_items (by omega) | exact sh_sums (by omega)) (by decide) (by decide) ?_
        refine wp_aload_n (pc := 6) dX12_sumFrom_6 (by first | rfl | assumption | (repeat first | assumption | rfl | refine aG_n ?_ rfl rfl)) ?_
        refine wp_getR (pc := 7) dX12_sumFrom_7 fl_12_119 (by first | rfl | assumption | exact sh_house (by omega) | exact sh_wish (by omega) | exact sh_wor (by omega) | exact sh_bar (by omega) | exact sh_term (by omega) | exact sh_sheet (by omega) | exact sh_items (by omega) | exact sh_sums (by omega)) rfl ?_
        refine wp_iload_n (pc := 10) dX12_sumFrom_10 (by first | rfl | assumption | (repeat first | assumption | rfl | refine aG_n ?_ rfl rfl)) ?_
        refine wp_iconst (pc := 11) (v := 1) dX12_sumFrom_11 (by decide) ?_
        refine wp_iadd (pc := 12) dX12_sumFrom_12 ?_
        refine wp_bipush (pc := 13) (v := 8) dX12_sumFrom_13 (by decide) ?_
        refine wp_irem (pc := 15) dX12_sumFrom_15 (by decide) ?_
        refine wp_ialdC (pc := 16) (j := 7) dX12_sumFrom_16 (by first | rfl | assumption | exact sh_house (by omega) | exact sh_wish (by omega) | exact sh_wor (by omega) | exact sh_bar (by omega) | exact sh_term (by omega) | exact sh_sheet (by omega) | exact sh_items (by omega) | exact sh_sums (by omega)) (by decide) (by decide) ?_
        refine wp_cS (pc := 17) dX12_sumFrom_17 lk_12_344 rfl rfl rfl (c_X12_sumOf (aK_i ?_))
        refine wp_istore_n (pc := 20) dX12_sumFrom_20 (by decide) ?_
        refine wp_iload_n (pc := 21) dX12_sumFrom_21 (by first | rfl | assumption | (repeat first | assumption | rfl | refine aG_n ?_ rfl rfl)) ?_
        refine wp_iconst (pc := 22) (v := 4) dX12_sumFrom_22 (by decide) ?_
        refine wp_icmp_ge (pc := 23) (tgt := 42) dX12_sumFrom_23 rfl (fun q => absurd q (by decide)) (fun _ => ?_)
        refine wp_iload_n (pc := 26) dX12_sumFrom_26 (by first | rfl | assumption | (repeat first | assumption | rfl | refine aG_n ?_ rfl rfl)) ?_
        refine wp_iconst (pc := 27) (v := 1) dX12_sumFrom_27 (by decide) ?_
        refine wp_icmp_ne (pc := 28) (tgt := 40) dX12_sumFrom_28 rfl (fun q => absurd q (by decide)) (fun _ => ?_)
        refine wp_aload_n (pc := 31) dX12_sumFrom_31 (by first | rfl | assumption | (repeat first | assumption | rfl | refine aG_n ?_ rfl rfl)) ?_
        refine wp_getR (pc := 32) dX12_sumFrom_32 fl_12_119 (by first | rfl | assumption | exact sh_house (by omega) | exact sh_wish (by omega) | exact sh_wor (by omega) | exact sh_bar (by omega) | exact sh_term (by omega) | exact sh_sheet (by omega) | exact sh_items (by omega) | exact sh_sums (by omega)) rfl ?_
        refine wp_iload_n (pc := 35) dX12_sumFrom_35 (by first | rfl | assumption | (repeat first | assumption | rfl | refine aG_n ?_ rfl rfl)) ?_
        refine wp_ialdC (pc := 36) (j := 6) dX12_sumFrom_36 (by first | rfl | assumption | exact sh_house (by omega) | exact sh_wish (by omega) | exact sh_wor (by omega) | exact sh_bar (by omega) | exact sh_term (by omega) | exact sh_sheet (by omega) | exact sh_items (by omega) | exact sh_sums (by omega)) (by decide) (by decide) ?_
        refine wp_goto (pc := 37) (tgt := 41) dX12_sumFrom_37 rfl ?_
        refine wp_iretK (pc := 41) dX12_sumFrom_41 rfl (by first | rfl | decide | assumption) ?_
        refine wp_ireturn (pc := 42) dX12_proof_42 rfl (by first | rfl | decide | assumption) ?_
        refine qEq ?_ (k' _ hI)
        exact (hR.1 6 (by omega)).1.symm
      | 7, _, 1, _ =>
        refine wp_iload_n (pc := 0) dX11_proof_0 (by first | rfl | assumption | (repeat first | assumption | rfl | refine aG_n ?_ rfl rfl)) ?_
        refine wp_iconst (pc := 1) (v := 0) dX11_proof_1 (by decide) ?_
        refine wp_bipush (pc := 2) (v := 7) dX11_proof_2 (by decide) ?_
        refine wp_cS (pc := 4) dX11_proof_4 lk_11_112 rfl rfl rfl (c_X11_isWithin (fun _ => aK_i ?_) (fun q => absurd c1 q))
        refine wp_if_eq (pc := 7) (tgt := 19) dX11_proof_7 rfl (fun q => absurd q (by decide)) (fun _ => ?_)
        refine wp_iload_n (pc := 10) dX11_proof_10 (by first | rfl | assumption | (repeat first | assumption | rfl | refine aG_n ?_ rfl rfl)) ?_
        refine wp_iconst (pc := 11) (v := 0) dX11_proof_11 (by decide) ?_
        refine wp_iconst (pc := 12) (v := 2) dX11_proof_12 (by decide) ?_
        refine wp_cS (pc := 13) dX11_proof_13 lk_11_112 rfl rfl rfl (c_X11_isWithin (fun _ => aK_i ?_) (fun q => absurd c2 q))
        refine wp_if_ne (pc := 16) (tgt := 21) dX11_proof_16 rfl (fun _ => ?_) (fun q => absurd q (by decide))
        refine wp_aload_n (pc := 21) dX11_proof_21 (by first | rfl | assumption | (repeat first | assumption | rfl | refine aG_n ?_ rfl rfl)) ?_
        refine wp_getR (pc := 22) dX11_proof_22 fl_11_60 (by first | rfl | assumption | exact sh_house (by omega) | exact sh_wish (by omega) | exact sh_wor (by omega) | exact sh_bar (by omega) | exact sh_term (by omega) | exact sh_sheet (by omega) | exact sh_items (by omega) | exact sh_sums (by omega)) rfl ?_
        refine wp_iload_n (pc := 25) dX11_proof_25 (by first | rfl | assumption | (repeat first | assumption | rfl | refine aG_n ?_ rfl rfl)) ?_
        refine wp_iload_n (pc := 26) dX11_proof_26 (by first | rfl | assumption | (repeat first | assumption | rfl | refine aG_n ?_ rfl rfl)) ?_
        refine wp_cV (pc := 27) dX11_proof_27 lk_11_352 rfl (by decide) rfl (by first | rfl | assumption | exact sh_house (by omega) | exact sh_wish (by omega) | exact sh_wor (by omega) | exact sh_bar (by omega) | exact sh_term (by omega) | exact sh_sheet (by omega) | exact sh_items (by omega) | exact sh_sums (by omega)) rfl rfl ?_
        refine wp_aload_n (pc := 0) dX5_beside_0 (by first | rfl | assumption | (repeat first | assumption | rfl | refine aG_n ?_ rfl rfl)) ?_
        refine wp_getR (pc := 1) dX5_beside_1 fl_5_9 (by first | rfl | assumption | exact sh_house (by omega) | exact sh_wish (by omega) | exact sh_wor (by omega) | exact sh_bar (by omega) | exact sh_term (by omega) | exact sh_sheet (by omega) | exact sh_items (by omega) | exact sh_sums (by omega)) rfl ?_
        refine wp_bipush (pc := 4) (v := 8) dX5_beside_4 (by decide) ?_
        refine wp_iload_n (pc := 6) dX5_beside_6 (by first | rfl | assumption | (repeat first | assumption | rfl | refine aG_n ?_ rfl rfl)) ?_
        refine wp_iadd (pc := 7) dX5_beside_7 ?_
        refine wp_iload_n (pc := 8) dX5_beside_8 (by first | rfl | assumption | (repeat first | assumption | rfl | refine aG_n ?_ rfl rfl)) ?_
        refine wp_ishr (pc := 9) dX5_beside_9 ?_
        refine wp_iconst (pc := 10) (v := 1) dX5_beside_10 (by decide) ?_
        refine wp_ixor (pc := 11) dX5_beside_11 ?_
        refine wp_ialdC (pc := 12) (j := 6) dX5_beside_12 (by first | rfl | assumption | exact sh_house (by omega) | exact sh_wish (by omega) | exact sh_wor (by omega) | exact sh_bar (by omega) | exact sh_term (by omega) | exact sh_sheet (by omega) | exact sh_items (by omega) | exact sh_sums (by omega)) (by decide) (by decide) ?_
        refine wp_iretK (pc := 13) dX5_beside_13 rfl (by first | rfl | decide | assumption) ?_
        refine wp_ireturn (pc := 30) dX11_proof_30 rfl (by first | rfl | decide | assumption) ?_
        refine k _ _ (fun Q' k' => ?_)
        refine wp_iload_n (pc := 0) dX12_proof_0 (by first | rfl | assumption | (repeat first | assumption | rfl | refine aG_n ?_ rfl rfl)) ?_
        refine wp_i2l (pc := 1) dX12_proof_1 ?_
        refine wp_lconst (pc := 2) (v := 0) dX12_proof_2 (by decide) ?_
        refine wp_ldc2 (pc := 3) dX12_proof_3 cl_12_347 ?_
        refine wp_cS (pc := 6) dX12_proof_6 lk_12_133 rfl rfl rfl (c_X12_in (fun _ => aK_i ?_) (fun q => absurd (by rw [w_int]; exact c1) q))
        refine wp_if_eq (pc := 9) (tgt := 24) dX12_proof_9 rfl (fun q => absurd q (by decide)) (fun _ => ?_)
        refine wp_iload_n (pc := 12) dX12_proof_12 (by first | rfl | assumption | (repeat first | assumption | rfl | refine aG_n ?_ rfl rfl)) ?_
        refine wp_i2l (pc := 13) dX12_proof_13 ?_
        refine wp_lconst (pc := 14) (v := 0) dX12_proof_14 (by decide) ?_
        refine wp_ldc2 (pc := 15) dX12_proof_15 cl_12_212 ?_
        refine wp_cS (pc := 18) dX12_proof_18 lk_12_133 rfl rfl rfl (c_X12_in (fun _ => aK_i ?_) (fun q => absurd (by rw [w_int]; exact c2) q))
        refine wp_if_ne (pc := 21) (tgt := 26) dX12_proof_21 rfl (fun _ => ?_) (fun q => absurd q (by decide))
        refine wp_iconst (pc := 26) (v := 1) dX12_proof_26 (by decide) ?_
        refine wp_iload_n (pc := 27) dX12_proof_27 (by first | rfl | assumption | (repeat first | assumption | rfl | refine aG_n ?_ rfl rfl)) ?_
        refine wp_ishl (pc := 28) dX12_proof_28 ?_
        refine wp_istore_n (pc := 29) dX12_proof_29 (by decide) ?_
        refine wp_aload_n (pc := 30) dX12_proof_30 (by first | rfl | assumption | (repeat first | assumption | rfl | refine aG_n ?_ rfl rfl)) ?_
        refine wp_iload_n (pc := 31) dX12_proof_31 (by first | rfl | assumption | (repeat first | assumption | rfl | refine aG_n ?_ rfl rfl)) ?_
        refine wp_iload_n (pc := 32) dX12_proof_32 (by first | rfl | assumption | (repeat first | assumption | rfl | refine aG_n ?_ rfl rfl)) ?_
        refine wp_idiv (pc := 33) dX12_proof_33 (by decide) ?_
        refine wp_iconst (pc := 34) (v := 1) dX12_proof_34 (by decide) ?_
        refine wp_ixor (pc := 35) dX12_proof_35 ?_
        refine wp_iload_n (pc := 36) dX12_proof_36 (by first | rfl | assumption | (repeat first | assumption | rfl | refine aG_n ?_ rfl rfl)) ?_
        refine wp_imul (pc := 37) dX12_proof_37 ?_
        refine wp_iload_n (pc := 38) dX12_proof_38 (by first | rfl | assumption | (repeat first | assumption | rfl | refine aG_n ?_ rfl rfl)) ?_
        refine wp_cV (pc := 39) dX12_proof_39 lk_12_349 rfl (by decide) rfl (by first | rfl | assumption | exact sh_house (by omega) | exact sh_wish (by omega) | exact sh_wor (by omega) | exact sh_bar (by omega) | exact sh_term (by omega) | exact sh_sheet (by omega) | exact sh_items (by omega) | exact sh_sums (by omega)) rfl rfl ?_
        refine wp_aload_n (pc := 0) dX12_sumFrom_0 (by first | rfl | assumption | (repeat first | assumption | rfl | refine aG_n ?_ rfl rfl)) ?_
        refine wp_getR (pc := 1) dX12_sumFrom_1 fl_12_119 (by first | rfl | assumption | exact sh_house (by omega) | exact sh_wish (by omega) | exact sh_wor (by omega) | exact sh_bar (by omega) | exact sh_term (by omega) | exact sh_sheet (by omega) | exact sh_items (by omega) | exact sh_sums (by omega)) rfl ?_
        refine wp_iload_n (pc := 4) dX12_sumFrom_4 (by first | rfl | assumption | (repeat first | assumption | rfl | refine aG_n ?_ rfl rfl)) ?_
        refine wp_ialdC (pc := 5) (j := 4) dX12_sumFrom_5 (by first | rfl | assumption | exact sh_house (by omega) | exact sh_wish (by omega) | exact sh_wor (by omega) | exact sh_bar (by omega) | exact sh_term (by omega) | exact sh_sheet (by omega) | exact sh_items (by omega) | exact sh_sums (by omega)) (by decide) (by decide) ?_
        refine wp_aload_n (pc := 6) dX12_sumFrom_6 (by first | rfl | assumption | (repeat first | assumption | rfl | refine aG_n ?_ rfl rfl)) ?_
        refine wp_getR (pc := 7) dX12_sumFrom_7 fl_12_119 (by first | rfl | assumption | exact sh_house (by omega) | exact sh_wish (by omega) | exact sh_wor (by omega) | exact sh_bar (by omega) | exact sh_term (by omega) | exact sh_sheet (by omega) | exact sh_items (by omega) | exact sh_sums (by omega)) rfl ?_
        refine wp_iload_n (pc := 10) dX12_sumFrom_10 (by first | rfl | assumption | (repeat first | assumption | rfl | refine aG_n ?_ rfl rfl)) ?_
        refine wp_iconst (pc := 11) (v := 1) dX12_sumFrom_11 (by decide) ?_
        refine wp_iadd (pc := 12) dX12_sumFrom_12 ?_
        refine wp_bipush (pc := 13) (v := 8) dX12_sumFrom_13 (by decide) ?_
        refine wp_irem (pc := 15) dX12_sumFrom_15 (by decide) ?_
        refine wp_ialdC (pc := 16) (j := 5) dX12_sumFrom_16 (by first | rfl | assumption | exact sh_house (by omega) | exact sh_wish (by omega) | exact sh_wor (by omega) | exact sh_bar (by omega) | exact sh_term (by omega) | exact sh_sheet (by omega) | exact sh_items (by omega) | exact sh_sums (by omega)) (by decide) (by decide) ?_
        refine wp_cS (pc := 17) dX12_sumFrom_17 lk_12_344 rfl rfl rfl (c_X12_sumOf (aK_i ?_))
        refine wp_istore_n (pc := 20) dX12_sumFrom_20 (by decide) ?_
        refine wp_iload_n (pc := 21) dX12_sumFrom_21 (by first | rfl | assumption | (repeat first | assumption | rfl | refine aG_n ?_ rfl rfl)) ?_
        refine wp_iconst (pc := 22) (v := 4) dX12_sumFrom_22 (by decide) ?_
        refine wp_icmp_ge (pc := 23) (tgt := 42) dX12_sumFrom_23 rfl (fun q => absurd q (by decide)) (fun _ => ?_)
        refine wp_iload_n (pc := 26) dX12_sumFrom_26 (by first | rfl | assumption | (repeat first | assumption | rfl | refine aG_n ?_ rfl rfl)) ?_
        refine wp_iconst (pc := 27) (v := 1) dX12_sumFrom_27 (by decide) ?_
        refine wp_icmp_ne (pc := 28) (tgt := 40) dX12_sumFrom_28 rfl (fun _ => ?_) (fun q => absurd q (by decide))
        refine wp_iload_n (pc := 40) dX12_sumFrom_40 (by first | rfl | assumption | (repeat first | assumption | rfl | refine aG_n ?_ rfl rfl)) ?_
        refine wp_iretK (pc := 41) dX12_sumFrom_41 rfl (by first | rfl | decide | assumption) ?_
        refine wp_ireturn (pc := 42) dX12_proof_42 rfl (by first | rfl | decide | assumption) ?_
        refine qEq ?_ (k' _ hI)
        rw [hR.2 6 (by omega) (by omega)]
        rw [← (hR.1 4 (by omega)).1, ← (hR.1 5 (by omega)).1]
      | 7, _, 2, _ =>
        refine wp_iload_n (pc := 0) dX11_proof_0 (by first | rfl | assumption | (repeat first | assumption | rfl | refine aG_n ?_ rfl rfl)) ?_
        refine wp_iconst (pc := 1) (v := 0) dX11_proof_1 (by decide) ?_
        refine wp_bipush (pc := 2) (v := 7) dX11_proof_2 (by decide) ?_
        refine wp_cS (pc := 4) dX11_proof_4 lk_11_112 rfl rfl rfl (c_X11_isWithin (fun _ => aK_i ?_) (fun q => absurd c1 q))
        refine wp_if_eq (pc := 7) (tgt := 19) dX11_proof_7 rfl (fun q => absurd q (by decide)) (fun _ => ?_)
        refine wp_iload_n (pc := 10) dX11_proof_10 (by first | rfl | assumption | (repeat first | assumption | rfl | refine aG_n ?_ rfl rfl)) ?_
        refine wp_iconst (pc := 11) (v := 0) dX11_proof_11 (by decide) ?_
        refine wp_iconst (pc := 12) (v := 2) dX11_proof_12 (by decide) ?_
        refine wp_cS (pc := 13) dX11_proof_13 lk_11_112 rfl rfl rfl (c_X11_isWithin (fun _ => aK_i ?_) (fun q => absurd c2 q))
        refine wp_if_ne (pc := 16) (tgt := 21) dX11_proof_16 rfl (fun _ => ?_) (fun q => absurd q (by decide))
        refine wp_aload_n (pc := 21) dX11_proof_21 (by first | rfl | assumption | (repeat first | assumption | rfl | refine aG_n ?_ rfl rfl)) ?_
        refine wp_getR (pc := 22) dX11_proof_22 fl_11_60 (by first | rfl | assumption | exact sh_house (by omega) | exact sh_wish (by omega) | exact sh_wor (by omega) | exact sh_bar (by omega) | exact sh_term (by omega) | exact sh_sheet (by omega) | exact sh_items (by omega) | exact sh_sums (by omega)) rfl ?_
        refine wp_iload_n (pc := 25) dX11_proof_25 (by first | rfl | assumption | (repeat first | assumption | rfl | refine aG_n ?_ rfl rfl)) ?_
        refine wp_iload_n (pc := 26) dX11_proof_26 (by first | rfl | assumption | (repeat first | assumption | rfl | refine aG_n ?_ rfl rfl)) ?_
        refine wp_cV (pc := 27) dX11_proof_27 lk_11_352 rfl (by decide) rfl (by first | rfl | assumption | exact sh_house (by omega) | exact sh_wish (by omega) | exact sh_wor (by omega) | exact sh_bar (by omega) | exact sh_term (by omega) | exact sh_sheet (by omega) | exact sh_items (by omega) | exact sh_sums (by omega)) rfl rfl ?_
        refine wp_aload_n (pc := 0) dX5_beside_0 (by first | rfl | assumption | (repeat first | assumption | rfl | refine aG_n ?_ rfl rfl)) ?_
        refine wp_getR (pc := 1) dX5_beside_1 fl_5_9 (by first | rfl | assumption | exact sh_house (by omega) | exact sh_wish (by omega) | exact sh_wor (by omega) | exact sh_bar (by omega) | exact sh_term (by omega) | exact sh_sheet (by omega) | exact sh_items (by omega) | exact sh_sums (by omega)) rfl ?_
        refine wp_bipush (pc := 4) (v := 8) dX5_beside_4 (by decide) ?_
        refine wp_iload_n (pc := 6) dX5_beside_6 (by first | rfl | assumption | (repeat first | assumption | rfl | refine aG_n ?_ rfl rfl)) ?_
        refine wp_iadd (pc := 7) dX5_beside_7 ?_
        refine wp_iload_n (pc := 8) dX5_beside_8 (by first | rfl | assumption | (repeat first | assumption | rfl | refine aG_n ?_ rfl rfl)) ?_
        refine wp_ishr (pc := 9) dX5_beside_9 ?_
        refine wp_iconst (pc := 10) (v := 1) dX5_beside_10 (by decide) ?_
        refine wp_ixor (pc := 11) dX5_beside_11 ?_
        refine wp_ialdC (pc := 12) (j := 2) dX5_beside_12 (by first | rfl | assumption | exact sh_house (by omega) | exact sh_wish (by omega) | exact sh_wor (by omega) | exact sh_bar (by omega) | exact sh_term (by omega) | exact sh_sheet (by omega) | exact sh_items (by omega) | exact sh_sums (by omega)) (by decide) (by decide) ?_
        refine wp_iretK (pc := 13) dX5_beside_13 rfl (by first | rfl | decide | assumption) ?_
        refine wp_ireturn (pc := 30) dX11_proof_30 rfl (by first | rfl | decide | assumption) ?_
        refine k _ _ (fun Q' k' => ?_)
        refine wp_iload_n (pc := 0) dX12_proof_0 (by first | rfl | assumption | (repeat first | assumption | rfl | refine aG_n ?_ rfl rfl)) ?_
        refine wp_i2l (pc := 1) dX12_proof_1 ?_
        refine wp_lconst (pc := 2) (v := 0) dX12_proof_2 (by decide) ?_
        refine wp_ldc2 (pc := 3) dX12_proof_3 cl_12_347 ?_
        refine wp_cS (pc := 6) dX12_proof_6 lk_12_133 rfl rfl rfl (c_X12_in (fun _ => aK_i ?_) (fun q => absurd (by rw [w_int]; exact c1) q))
        refine wp_if_eq (pc := 9) (tgt := 24) dX12_proof_9 rfl (fun q => absurd q (by decide)) (fun _ => ?_)
        refine wp_iload_n (pc := 12) dX12_proof_12 (by first | rfl | assumption | (repeat first | assumption | rfl | refine aG_n ?_ rfl rfl)) ?_
        refine wp_i2l (pc := 13) dX12_proof_13 ?_
        refine wp_lconst (pc := 14) (v := 0) dX12_proof_14 (by decide) ?_
        refine wp_ldc2 (pc := 15) dX12_proof_15 cl_12_212 ?_
        refine wp_cS (pc := 18) dX12_proof_18 lk_12_133 rfl rfl rfl (c_X12_in (fun _ => aK_i ?_) (fun q => absurd (by rw [w_int]; exact c2) q))
        refine wp_if_ne (pc := 21) (tgt := 26) dX12_proof_21 rfl (fun _ => ?_) (fun q => absurd q (by decide))
        refine wp_iconst (pc := 26) (v := 1) dX12_proof_26 (by decide) ?_
        refine wp_iload_n (pc := 27) dX12_proof_27 (by first | rfl | assumption | (repeat first | assumption | rfl | refine aG_n ?_ rfl rfl)) ?_
        refine wp_ishl (pc := 28) dX12_proof_28 ?_
        refine wp_istore_n (pc := 29) dX12_proof_29 (by decide) ?_
        refine wp_aload_n (pc := 30) dX12_proof_30 (by first | rfl | assumption | (repeat first | assumption | rfl | refine aG_n ?_ rfl rfl)) ?_
        refine wp_iload_n (pc := 31) dX12_proof_31 (by first | rfl | assumption | (repeat first | assumption | rfl | refine aG_n ?_ rfl rfl)) ?_
        refine wp_iload_n (pc := 32) dX12_proof_32 (by first | rfl | assumption | (repeat first | assumption | rfl | refine aG_n ?_ rfl rfl)) ?_
        refine wp_idiv (pc := 33) dX12_proof_33 (by decide) ?_
        refine wp_iconst (pc := 34) (v := 1) dX12_proof_34 (by decide) ?_
        refine wp_ixor (pc := 35) dX12_proof_35 ?_
        refine wp_iload_n (pc := 36) dX12_proof_36 (by first | rfl | assumption | (repeat first | assumption | rfl | refine aG_n ?_ rfl rfl)) ?_
        refine wp_imul (pc := 37) dX12_proof_37 ?_
        refine wp_iload_n (pc := 38) dX12_proof_38 (by first | rfl | assumption | (repeat first | assumption | rfl | refine aG_n ?_ rfl rfl)) ?_
        refine wp_cV (pc := 39) dX12_proof_39 lk_12_349 rfl (by decide) rfl (by first | rfl | assumption | exact sh_house (by omega) | exact sh_wish (by omega) | exact sh_wor (by omega) | exact sh_bar (by omega) | exact sh_term (by omega) | exact sh_sheet (by omega) | exact sh_items (by omega) | exact sh_sums (by omega)) rfl rfl ?_
        refine wp_aload_n (pc := 0) dX12_sumFrom_0 (by first | rfl | assumption | (repeat first | assumption | rfl | refine aG_n ?_ rfl rfl)) ?_
        refine wp_getR (pc := 1) dX12_sumFrom_1 fl_12_119 (by first | rfl | assumption | exact sh_house (by omega) | exact sh_wish (by omega) | exact sh_wor (by omega) | exact sh_bar (by omega) | exact sh_term (by omega) | exact sh_sheet (by omega) | exact sh_items (by omega) | exact sh_sums (by omega)) rfl ?_
        refine wp_iload_n (pc := 4) dX12_sumFrom_4 (by first | rfl | assumption | (repeat first | assumption | rfl | refine aG_n ?_ rfl rfl)) ?_
        refine wp_ialdC (pc := 5) (j := 0) dX12_sumFrom_5 (by first | rfl | assumption | exact sh_house (by omega) | exact sh_wish (by omega) | exact sh_wor (by omega) | exact sh_bar (by omega) | exact sh_term (by omega) | exact sh_sheet (by omega) | exact sh_items (by omega) | exact sh_sums (by omega)) (by decide) (by decide) ?_
        refine wp_aload_n (pc := 6) dX12_sumFrom_6 (by first | rfl | assumption | (repeat first | assumption | rfl | refine aG_n ?_ rfl rfl)) ?_
        refine wp_getR (pc := 7) dX12_sumFrom_7 fl_12_119 (by first | rfl | assumption | exact sh_house (by omega) | exact sh_wish (by omega) | exact sh_wor (by omega) | exact sh_bar (by omega) | exact sh_term (by omega) | exact sh_sheet (by omega) | exact sh_items (by omega) | exact sh_sums (by omega)) rfl ?_
        refine wp_iload_n (pc := 10) dX12_sumFrom_10 (by first | rfl | assumption | (repeat first | assumption | rfl | refine aG_n ?_ rfl rfl)) ?_
        refine wp_iconst (pc := 11) (v := 1) dX12_sumFrom_11 (by decide) ?_
        refine wp_iadd (pc := 12) dX12_sumFrom_12 ?_
        refine wp_bipush (pc := 13) (v := 8) dX12_sumFrom_13 (by decide) ?_
        refine wp_irem (pc := 15) dX12_sumFrom_15 (by decide) ?_
        refine wp_ialdC (pc := 16) (j := 1) dX12_sumFrom_16 (by first | rfl | assumption | exact sh_house (by omega) | exact sh_wish (by omega) | exact sh_wor (by omega) | exact sh_bar (by omega) | exact sh_term (by omega) | exact sh_sheet (by omega) | exact sh_items (by omega) | exact sh_sums (by omega)) (by decide) (by decide) ?_
        refine wp_cS (pc := 17) dX12_sumFrom_17 lk_12_344 rfl rfl rfl (c_X12_sumOf (aK_i ?_))
        refine wp_istore_n (pc := 20) dX12_sumFrom_20 (by decide) ?_
        refine wp_iload_n (pc := 21) dX12_sumFrom_21 (by first | rfl | assumption | (repeat first | assumption | rfl | refine aG_n ?_ rfl rfl)) ?_
        refine wp_iconst (pc := 22) (v := 4) dX12_sumFrom_22 (by decide) ?_
        refine wp_icmp_ge (pc := 23) (tgt := 42) dX12_sumFrom_23 rfl (fun _ => ?_) (fun q => absurd q (by decide))
        refine wp_iload_n (pc := 42) dX12_sumFrom_42 (by first | rfl | assumption | (repeat first | assumption | rfl | refine aG_n ?_ rfl rfl)) ?_
        refine wp_aload_n (pc := 43) dX12_sumFrom_43 (by first | rfl | assumption | (repeat first | assumption | rfl | refine aG_n ?_ rfl rfl)) ?_
        refine wp_getR (pc := 44) dX12_sumFrom_44 fl_12_119 (by first | rfl | assumption | exact sh_house (by omega) | exact sh_wish (by omega) | exact sh_wor (by omega) | exact sh_bar (by omega) | exact sh_term (by omega) | exact sh_sheet (by omega) | exact sh_items (by omega) | exact sh_sums (by omega)) rfl ?_
        refine wp_iload_n (pc := 47) dX12_sumFrom_47 (by first | rfl | assumption | (repeat first | assumption | rfl | refine aG_n ?_ rfl rfl)) ?_
        refine wp_iconst (pc := 48) (v := 2) dX12_sumFrom_48 (by decide) ?_
        refine wp_iadd (pc := 49) dX12_sumFrom_49 ?_
        refine wp_ialdC (pc := 50) (j := 2) dX12_sumFrom_50 (by first | rfl | assumption | exact sh_house (by omega) | exact sh_wish (by omega) | exact sh_wor (by omega) | exact sh_bar (by omega) | exact sh_term (by omega) | exact sh_sheet (by omega) | exact sh_items (by omega) | exact sh_sums (by omega)) (by decide) (by decide) ?_
        refine wp_aload_n (pc := 51) dX12_sumFrom_51 (by first | rfl | assumption | (repeat first | assumption | rfl | refine aG_n ?_ rfl rfl)) ?_
        refine wp_getR (pc := 52) dX12_sumFrom_52 fl_12_119 (by first | rfl | assumption | exact sh_house (by omega) | exact sh_wish (by omega) | exact sh_wor (by omega) | exact sh_bar (by omega) | exact sh_term (by omega) | exact sh_sheet (by omega) | exact sh_items (by omega) | exact sh_sums (by omega)) rfl ?_
        refine wp_iload_n (pc := 55) dX12_sumFrom_55 (by first | rfl | assumption | (repeat first | assumption | rfl | refine aG_n ?_ rfl rfl)) ?_
        refine wp_iconst (pc := 56) (v := 3) dX12_sumFrom_56 (by decide) ?_
        refine wp_iadd (pc := 57) dX12_sumFrom_57 ?_
        refine wp_ialdC (pc := 58) (j := 3) dX12_sumFrom_58 (by first | rfl | assumption | exact sh_house (by omega) | exact sh_wish (by omega) | exact sh_wor (by omega) | exact sh_bar (by omega) | exact sh_term (by omega) | exact sh_sheet (by omega) | exact sh_items (by omega) | exact sh_sums (by omega)) (by decide) (by decide) ?_
        refine wp_cS (pc := 59) dX12_sumFrom_59 lk_12_344 rfl rfl rfl (c_X12_sumOf (aK_i ?_))
        refine wp_cS (pc := 62) dX12_sumFrom_62 lk_12_344 rfl rfl rfl (c_X12_sumOf (aK_i ?_))
        refine wp_istore (pc := 65) dX12_sumFrom_65 (by decide) ?_
        refine wp_iload_n (pc := 67) dX12_sumFrom_67 (by first | rfl | assumption | (repeat first | assumption | rfl | refine aG_n ?_ rfl rfl)) ?_
        refine wp_iconst (pc := 68) (v := 4) dX12_sumFrom_68 (by decide) ?_
        refine wp_icmp_ne (pc := 69) (tgt := 75) dX12_sumFrom_69 rfl (fun q => absurd q (by decide)) (fun _ => ?_)
        refine wp_iload (pc := 72) dX12_sumFrom_72 (by first | rfl | assumption | (repeat first | assumption | rfl | refine aG_n ?_ rfl rfl)) ?_
        refine wp_iretK (pc := 74) dX12_sumFrom_74 rfl (by first | rfl | decide | assumption) ?_
        refine wp_ireturn (pc := 42) dX12_proof_42 rfl (by first | rfl | decide | assumption) ?_
        refine qEq ?_ (k' _ hI)
        rw [hR.2 2 (by omega) (by omega), hR.2 (2 * 2) (by omega) (by omega), hR.2 (2 * 2 + 1) (by omega) (by omega)]
        rw [← (hR.1 0 (by omega)).1, ← (hR.1 1 (by omega)).1, ← (hR.1 2 (by omega)).1, ← (hR.1 3 (by omega)).1]
      | _ + 8, hj, _, _ => omega
      | _, _, _ + 3, ht => omega
    · skip
      refine wp_iload_n (pc := 0) dX11_proof_0 (by first | rfl | assumption | (repeat first | assumption | rfl | refine aG_n ?_ rfl rfl)) ?_
      refine wp_iconst (pc := 1) (v := 0) dX11_proof_1 (by decide) ?_
      refine wp_bipush (pc := 2) (v := 7) dX11_proof_2 (by decide) ?_
      refine wp_cS (pc := 4) dX11_proof_4 lk_11_112 rfl rfl rfl (c_X11_isWithin (fun _ => aK_i ?_) (fun q => absurd c1 q))
      refine wp_if_eq (pc := 7) (tgt := 19) dX11_proof_7 rfl (fun q => absurd q (by decide)) (fun _ => ?_)
      refine wp_iload_n (pc := 10) dX11_proof_10 (by first | rfl | assumption | (repeat first | assumption | rfl | refine aG_n ?_ rfl rfl)) ?_
      refine wp_iconst (pc := 11) (v := 0) dX11_proof_11 (by decide) ?_
      refine wp_iconst (pc := 12) (v := 2) dX11_proof_12 (by decide) ?_
      refine wp_cS (pc := 13) dX11_proof_13 lk_11_112 rfl rfl rfl (c_X11_isWithin (fun q => absurd q c2) (fun _ => aK_i ?_))
      refine wp_if_ne (pc := 16) (tgt := 21) dX11_proof_16 rfl (fun q => absurd q (by decide)) (fun _ => ?_)
      refine wp_iconst (pc := 19) (v := -1) dX11_proof_19 (by decide) ?_
      refine wp_ireturn (pc := 20) dX11_proof_20 rfl (by first | rfl | decide | assumption) ?_
      refine k _ _ (fun Q' k' => ?_)
      refine wp_iload_n (pc := 0) dX12_proof_0 (by first | rfl | assumption | (repeat first | assumption | rfl | refine aG_n ?_ rfl rfl)) ?_
      refine wp_i2l (pc := 1) dX12_proof_1 ?_
      refine wp_lconst (pc := 2) (v := 0) dX12_proof_2 (by decide) ?_
      refine wp_ldc2 (pc := 3) dX12_proof_3 cl_12_347 ?_
      refine wp_cS (pc := 6) dX12_proof_6 lk_12_133 rfl rfl rfl (c_X12_in (fun _ => aK_i ?_) (fun q => absurd (by rw [w_int]; exact c1) q))
      refine wp_if_eq (pc := 9) (tgt := 24) dX12_proof_9 rfl (fun q => absurd q (by decide)) (fun _ => ?_)
      refine wp_iload_n (pc := 12) dX12_proof_12 (by first | rfl | assumption | (repeat first | assumption | rfl | refine aG_n ?_ rfl rfl)) ?_
      refine wp_i2l (pc := 13) dX12_proof_13 ?_
      refine wp_lconst (pc := 14) (v := 0) dX12_proof_14 (by decide) ?_
      refine wp_ldc2 (pc := 15) dX12_proof_15 cl_12_212 ?_
      refine wp_cS (pc := 18) dX12_proof_18 lk_12_133 rfl rfl rfl (c_X12_in (fun q => absurd q (by rw [w_int]; exact c2)) (fun _ => aK_i ?_))
      refine wp_if_ne (pc := 21) (tgt := 26) dX12_proof_21 rfl (fun q => absurd q (by decide)) (fun _ => ?_)
      refine wp_iconst (pc := 24) (v := -1) dX12_proof_24 (by decide) ?_
      refine wp_ireturn (pc := 25) dX12_proof_25 rfl (by first | rfl | decide | assumption) ?_
      exact k' _ hI
  · skip
    refine wp_iload_n (pc := 0) dX11_proof_0 (by first | rfl | assumption | (repeat first | assumption | rfl | refine aG_n ?_ rfl rfl)) ?_
    refine wp_iconst (pc := 1) (v := 0) dX11_proof_1 (by decide) ?_
    refine wp_bipush (pc := 2) (v := 7) dX11_proof_2 (by decide) ?_
    refine wp_cS (pc := 4) dX11_proof_4 lk_11_112 rfl rfl rfl (c_X11_isWithin (fun q => absurd q c1) (fun _ => aK_i ?_))
    refine wp_if_eq (pc := 7) (tgt := 19) dX11_proof_7 rfl (fun _ => ?_) (fun q => absurd q (by decide))
    refine wp_iconst (pc := 19) (v := -1) dX11_proof_19 (by decide) ?_
    refine wp_ireturn (pc := 20) dX11_proof_20 rfl (by first | rfl | decide | assumption) ?_
    refine k _ _ (fun Q' k' => ?_)
    refine wp_iload_n (pc := 0) dX12_proof_0 (by first | rfl | assumption | (repeat first | assumption | rfl | refine aG_n ?_ rfl rfl)) ?_
    refine wp_i2l (pc := 1) dX12_proof_1 ?_
    refine wp_lconst (pc := 2) (v := 0) dX12_proof_2 (by decide) ?_
    refine wp_ldc2 (pc := 3) dX12_proof_3 cl_12_347 ?_
    refine wp_cS (pc := 6) dX12_proof_6 lk_12_133 rfl rfl rfl (c_X12_in (fun q => absurd q (by rw [w_int]; exact c1)) (fun _ => aK_i ?_))
    refine wp_if_eq (pc := 9) (tgt := 24) dX12_proof_9 rfl (fun _ => ?_) (fun q => absurd q (by decide))
    refine wp_iconst (pc := 24) (v := -1) dX12_proof_24 (by decide) ?_
    refine wp_ireturn (pc := 25) dX12_proof_25 rfl (by first | rfl | decide | assumption) ?_
    exact k' _ hI
theorem J_proves (i v x y z : Int32) : Jnt mX11_proves mX12_proves [.int i, .int v, .int x, .int y, .int z] := by
  intro X μ Q hI k
  have hR := hI.2.2.2.2.2.2.2.1
  by_cases c0 : inR i 0 7
  · skip
    by_cases c1 : inR v 0 9972
    · skip
      by_cases c2 : inR x 0 9972
      · skip
        by_cases c3 : inR y 0 9972
        · skip
          by_cases c4 : inR z 0 9972
          · skip
            obtain ⟨j, hj, rfl⟩ := inR_of (n := 7) c0
            match j, hj with
            | 0, _ =>
              by_cases c5 : sm2 (sm2 (sm2 (v) (x)) (y)) (z) = μ.1 53 1
              · skip
                refine wp_iload_n (pc := 0) dX11_proves_0 (by first | rfl | assumption | (repeat first | assumption | rfl | refine aG_n ?_ rfl rfl)) ?_
                refine wp_iconst (pc := 1) (v := 0) dX11_proves_1 (by decide) ?_
                refine wp_bipush (pc := 2) (v := 7) dX11_proves_2 (by decide) ?_
                refine wp_cS (pc := 4) dX11_proves_4 lk_11_112 rfl rfl rfl (c_X11_isWithin (fun _ => aK_i ?_) (fun q => absurd c0 q))
                refine wp_if_eq (pc := 7) (tgt := 40) dX11_proves_7 rfl (fun q => absurd q (by decide)) (fun _ => ?_)
                refine wp_iload_n (pc := 10) dX11_proves_10 (by first | rfl | assumption | (repeat first | assumption | rfl | refine aG_n ?_ rfl rfl)) ?_
                refine wp_cS (pc := 11) dX11_proves_11 lk_11_355 rfl rfl rfl (c_X11_isSum (fun _ => aK_i ?_) (fun q => absurd c1 q))
                refine wp_if_eq (pc := 14) (tgt := 40) dX11_proves_14 rfl (fun q => absurd q (by decide)) (fun _ => ?_)
                refine wp_iload_n (pc := 17) dX11_proves_17 (by first | rfl | assumption | (repeat first | assumption | rfl | refine aG_n ?_ rfl rfl)) ?_
                refine wp_cS (pc := 18) dX11_proves_18 lk_11_355 rfl rfl rfl (c_X11_isSum (fun _ => aK_i ?_) (fun q => absurd c2 q))
                refine wp_if_eq (pc := 21) (tgt := 40) dX11_proves_21 rfl (fun q => absurd q (by decide)) (fun _ => ?_)
                refine wp_iload (pc := 24) dX11_proves_24 (by first | rfl | assumption | (repeat first | assumption | rfl | refine aG_n ?_ rfl rfl)) ?_
                refine wp_cS (pc := 26) dX11_proves_26 lk_11_355 rfl rfl rfl (c_X11_isSum (fun _ => aK_i ?_) (fun q => absurd c3 q))
                refine wp_if_eq (pc := 29) (tgt := 40) dX11_proves_29 rfl (fun q => absurd q (by decide)) (fun _ => ?_)
                refine wp_iload (pc := 32) dX11_proves_32 (by first | rfl | assumption | (repeat first | assumption | rfl | refine aG_n ?_ rfl rfl)) ?_
                refine wp_cS (pc := 34) dX11_proves_34 lk_11_355 rfl rfl rfl (c_X11_isSum (fun _ => aK_i ?_) (fun q => absurd c4 q))
                refine wp_if_ne (pc := 37) (tgt := 42) dX11_proves_37 rfl (fun _ => ?_) (fun q => absurd q (by decide))
                refine wp_iload_n (pc := 42) dX11_proves_42 (by first | rfl | assumption | (repeat first | assumption | rfl | refine aG_n ?_ rfl rfl)) ?_
                refine wp_iload_n (pc := 43) dX11_proves_43 (by first | rfl | assumption | (repeat first | assumption | rfl | refine aG_n ?_ rfl rfl)) ?_
                refine wp_iload_n (pc := 44) dX11_proves_44 (by first | rfl | assumption | (repeat first | assumption | rfl | refine aG_n ?_ rfl rfl)) ?_
                refine wp_cS (pc := 45) dX11_proves_45 lk_11_358 rfl rfl rfl ?_
                refine wp_iload_n (pc := 0) dX5_climb_0 (by first | rfl | assumption | (repeat first | assumption | rfl | refine aG_n ?_ rfl rfl)) ?_
                refine wp_iconst (pc := 1) (v := 1) dX5_climb_1 (by decide) ?_
                refine wp_iand (pc := 2) dX5_climb_2 ?_
                refine wp_if_ne (pc := 3) (tgt := 14) dX5_climb_3 rfl (fun q => absurd q (by decide)) (fun _ => ?_)
                refine wp_iload_n (pc := 6) dX5_climb_6 (by first | rfl | assumption | (repeat first | assumption | rfl | refine aG_n ?_ rfl rfl)) ?_
                refine wp_iload_n (pc := 7) dX5_climb_7 (by first | rfl | assumption | (repeat first | assumption | rfl | refine aG_n ?_ rfl rfl)) ?_
                refine wp_cS (pc := 8) dX5_climb_8 lk_5_13 rfl rfl rfl (c_X5_sum (aK_i ?_))
                refine wp_goto (pc := 11) (tgt := 19) dX5_climb_11 rfl ?_
                refine wp_iretK (pc := 19) dX5_climb_19 rfl (by first | rfl | decide | assumption) ?_
                refine wp_istore (pc := 48) dX11_proves_48 (by decide) ?_
                refine wp_iload_n (pc := 50) dX11_proves_50 (by first | rfl | assumption | (repeat first | assumption | rfl | refine aG_n ?_ rfl rfl)) ?_
                refine wp_iconst (pc := 51) (v := 1) dX11_proves_51 (by decide) ?_
                refine wp_ishr (pc := 52) dX11_proves_52 ?_
                refine wp_iload (pc := 53) dX11_proves_53 (by first | rfl | assumption | (repeat first | assumption | rfl | refine aG_n ?_ rfl rfl)) ?_
                refine wp_iload (pc := 55) dX11_proves_55 (by first | rfl | assumption | (repeat first | assumption | rfl | refine aG_n ?_ rfl rfl)) ?_
                refine wp_cS (pc := 57) dX11_proves_57 lk_11_358 rfl rfl rfl ?_
                refine wp_iload_n (pc := 0) dX5_climb_0 (by first | rfl | assumption | (repeat first | assumption | rfl | refine aG_n ?_ rfl rfl)) ?_
                refine wp_iconst (pc := 1) (v := 1) dX5_climb_1 (by decide) ?_
                refine wp_iand (pc := 2) dX5_climb_2 ?_
                refine wp_if_ne (pc := 3) (tgt := 14) dX5_climb_3 rfl (fun q => absurd q (by decide)) (fun _ => ?_)
                refine wp_iload_n (pc := 6) dX5_climb_6 (by first | rfl | assumption | (repeat first | assumption | rfl | refine aG_n ?_ rfl rfl)) ?_
                refine wp_iload_n (pc := 7) dX5_climb_7 (by first | rfl | assumption | (repeat first | assumption | rfl | refine aG_n ?_ rfl rfl)) ?_
                refine wp_cS (pc := 8) dX5_climb_8 lk_5_13 rfl rfl rfl (c_X5_sum (aK_i ?_))
                refine wp_goto (pc := 11) (tgt := 19) dX5_climb_11 rfl ?_
                refine wp_iretK (pc := 19) dX5_climb_19 rfl (by first | rfl | decide | assumption) ?_
                refine wp_istore (pc := 60) dX11_proves_60 (by decide) ?_
                refine wp_iload_n (pc := 62) dX11_proves_62 (by first | rfl | assumption | (repeat first | assumption | rfl | refine aG_n ?_ rfl rfl)) ?_
                refine wp_iconst (pc := 63) (v := 2) dX11_proves_63 (by decide) ?_
                refine wp_ishr (pc := 64) dX11_proves_64 ?_
                refine wp_iload (pc := 65) dX11_proves_65 (by first | rfl | assumption | (repeat first | assumption | rfl | refine aG_n ?_ rfl rfl)) ?_
                refine wp_iload (pc := 67) dX11_proves_67 (by first | rfl | assumption | (repeat first | assumption | rfl | refine aG_n ?_ rfl rfl)) ?_
                refine wp_cS (pc := 69) dX11_proves_69 lk_11_358 rfl rfl rfl ?_
                refine wp_iload_n (pc := 0) dX5_climb_0 (by first | rfl | assumption | (repeat first | assumption | rfl | refine aG_n ?_ rfl rfl)) ?_
                refine wp_iconst (pc := 1) (v := 1) dX5_climb_1 (by decide) ?_
                refine wp_iand (pc := 2) dX5_climb_2 ?_
                refine wp_if_ne (pc := 3) (tgt := 14) dX5_climb_3 rfl (fun q => absurd q (by decide)) (fun _ => ?_)
                refine wp_iload_n (pc := 6) dX5_climb_6 (by first | rfl | assumption | (repeat first | assumption | rfl | refine aG_n ?_ rfl rfl)) ?_
                refine wp_iload_n (pc := 7) dX5_climb_7 (by first | rfl | assumption | (repeat first | assumption | rfl | refine aG_n ?_ rfl rfl)) ?_
                refine wp_cS (pc := 8) dX5_climb_8 lk_5_13 rfl rfl rfl (c_X5_sum (aK_i ?_))
                refine wp_goto (pc := 11) (tgt := 19) dX5_climb_11 rfl ?_
                refine wp_iretK (pc := 19) dX5_climb_19 rfl (by first | rfl | decide | assumption) ?_
                refine wp_istore (pc := 72) dX11_proves_72 (by decide) ?_
                refine wp_iload (pc := 74) dX11_proves_74 (by first | rfl | assumption | (repeat first | assumption | rfl | refine aG_n ?_ rfl rfl)) ?_
                refine wp_aload_n (pc := 76) dX11_proves_76 (by first | rfl | assumption | (repeat first | assumption | rfl | refine aG_n ?_ rfl rfl)) ?_
                refine wp_getR (pc := 77) dX11_proves_77 fl_11_60 (by first | rfl | assumption | exact sh_house (by omega) | exact sh_wish (by omega) | exact sh_wor (by omega) | exact sh_bar (by omega) | exact sh_term (by omega) | exact sh_sheet (by omega) | exact sh_items (by omega) | exact sh_sums (by omega)) rfl ?_
                refine wp_getR (pc := 80) dX11_proves_80 fl_11_349 (by first | rfl | assumption | exact sh_house (by omega) | exact sh_wish (by omega) | exact sh_wor (by omega) | exact sh_bar (by omega) | exact sh_term (by omega) | exact sh_sheet (by omega) | exact sh_items (by omega) | exact sh_sums (by omega)) rfl ?_
                refine wp_iconst (pc := 83) (v := 1) dX11_proves_83 (by decide) ?_
                refine wp_ialdC (pc := 84) (j := 1) dX11_proves_84 (by first | rfl | assumption | exact sh_house (by omega) | exact sh_wish (by omega) | exact sh_wor (by omega) | exact sh_bar (by omega) | exact sh_term (by omega) | exact sh_sheet (by omega) | exact sh_items (by omega) | exact sh_sums (by omega)) (by decide) (by decide) ?_
                refine wp_icmp_ne (pc := 85) (tgt := 92) dX11_proves_85 rfl (fun q => absurd c5 q) (fun _ => ?_)
                refine wp_iconst (pc := 88) (v := 1) dX11_proves_88 (by decide) ?_
                refine wp_goto (pc := 89) (tgt := 93) dX11_proves_89 rfl ?_
                refine wp_cS (pc := 93) dX11_proves_93 lk_11_148 rfl rfl rfl ?_
                refine wp_iload_n (pc := 0) dX11_oneIf_0 (by first | rfl | assumption | (repeat first | assumption | rfl | refine aG_n ?_ rfl rfl)) ?_
                refine wp_if_eq (pc := 1) (tgt := 8) dX11_oneIf_1 rfl (fun q => absurd q (by decide)) (fun _ => ?_)
                refine wp_iconst (pc := 4) (v := 1) dX11_oneIf_4 (by decide) ?_
                refine wp_goto (pc := 5) (tgt := 9) dX11_oneIf_5 rfl ?_
                refine wp_iretK (pc := 9) dX11_oneIf_9 rfl (by first | rfl | decide | assumption) ?_
                refine wp_ireturn (pc := 96) dX11_proves_96 rfl (by first | rfl | decide | assumption) ?_
                refine k _ _ (fun Q' k' => ?_)
                refine wp_iload_n (pc := 0) dX12_proves_0 (by first | rfl | assumption | (repeat first | assumption | rfl | refine aG_n ?_ rfl rfl)) ?_
                refine wp_i2l (pc := 1) dX12_proves_1 ?_
                refine wp_lconst (pc := 2) (v := 0) dX12_proves_2 (by decide) ?_
                refine wp_ldc2 (pc := 3) dX12_proves_3 cl_12_347 ?_
                refine wp_cS (pc := 6) dX12_proves_6 lk_12_133 rfl rfl rfl (c_X12_in (fun _ => aK_i ?_) (fun q => absurd (by rw [w_int]; exact c0) q))
                refine wp_if_eq (pc := 9) (tgt := 42) dX12_proves_9 rfl (fun q => absurd q (by decide)) (fun _ => ?_)
                refine wp_iload_n (pc := 12) dX12_proves_12 (by first | rfl | assumption | (repeat first | assumption | rfl | refine aG_n ?_ rfl rfl)) ?_
                refine wp_cS (pc := 13) dX12_proves_13 lk_12_354 rfl rfl rfl (c_X12_isSum (fun _ => aK_i ?_) (fun q => absurd c1 q))
                refine wp_if_eq (pc := 16) (tgt := 42) dX12_proves_16 rfl (fun q => absurd q (by decide)) (fun _ => ?_)
                refine wp_iload_n (pc := 19) dX12_proves_19 (by first | rfl | assumption | (repeat first | assumption | rfl | refine aG_n ?_ rfl rfl)) ?_
                refine wp_cS (pc := 20) dX12_proves_20 lk_12_354 rfl rfl rfl (c_X12_isSum (fun _ => aK_i ?_) (fun q => absurd c2 q))
                refine wp_if_eq (pc := 23) (tgt := 42) dX12_proves_23 rfl (fun q => absurd q (by decide)) (fun _ => ?_)
                refine wp_iload (pc := 26) dX12_proves_26 (by first | rfl | assumption | (repeat first | assumption | rfl | refine aG_n ?_ rfl rfl)) ?_
                refine wp_cS (pc := 28) dX12_proves_28 lk_12_354 rfl rfl rfl (c_X12_isSum (fun _ => aK_i ?_) (fun q => absurd c3 q))
                refine wp_if_eq (pc := 31) (tgt := 42) dX12_proves_31 rfl (fun q => absurd q (by decide)) (fun _ => ?_)
                refine wp_iload (pc := 34) dX12_proves_34 (by first | rfl | assumption | (repeat first | assumption | rfl | refine aG_n ?_ rfl rfl)) ?_
                refine wp_cS (pc := 36) dX12_proves_36 lk_12_354 rfl rfl rfl (c_X12_isSum (fun _ => aK_i ?_) (fun q => absurd c4 q))
                refine wp_if_ne (pc := 39) (tgt := 44) dX12_proves_39 rfl (fun _ => ?_) (fun q => absurd q (by decide))
                refine wp_iload_n (pc := 44) dX12_proves_44 (by first | rfl | assumption | (repeat first | assumption | rfl | refine aG_n ?_ rfl rfl)) ?_
                refine wp_iload_n (pc := 45) dX12_proves_45 (by first | rfl | assumption | (repeat first | assumption | rfl | refine aG_n ?_ rfl rfl)) ?_
                refine wp_iload_n (pc := 46) dX12_proves_46 (by first | rfl | assumption | (repeat first | assumption | rfl | refine aG_n ?_ rfl rfl)) ?_
                refine wp_cS (pc := 47) dX12_proves_47 lk_12_357 rfl rfl rfl ?_
                refine wp_iload_n (pc := 0) dX12_sumBeside_0 (by first | rfl | assumption | (repeat first | assumption | rfl | refine aG_n ?_ rfl rfl)) ?_
                refine wp_iconst (pc := 1) (v := 2) dX12_sumBeside_1 (by decide) ?_
                refine wp_irem (pc := 2) dX12_sumBeside_2 (by decide) ?_
                refine wp_if_ne (pc := 3) (tgt := 14) dX12_sumBeside_3 rfl (fun q => absurd q (by decide)) (fun _ => ?_)
                refine wp_iload_n (pc := 6) dX12_sumBeside_6 (by first | rfl | assumption | (repeat first | assumption | rfl | refine aG_n ?_ rfl rfl)) ?_
                refine wp_iload_n (pc := 7) dX12_sumBeside_7 (by first | rfl | assumption | (repeat first | assumption | rfl | refine aG_n ?_ rfl rfl)) ?_
                refine wp_cS (pc := 8) dX12_sumBeside_8 lk_12_344 rfl rfl rfl (c_X12_sumOf (aK_i ?_))
                refine wp_goto (pc := 11) (tgt := 19) dX12_sumBeside_11 rfl ?_
                refine wp_iretK (pc := 19) dX12_sumBeside_19 rfl (by first | rfl | decide | assumption) ?_
                refine wp_istore (pc := 50) dX12_proves_50 (by decide) ?_
                refine wp_iload_n (pc := 52) dX12_proves_52 (by first | rfl | assumption | (repeat first | assumption | rfl | refine aG_n ?_ rfl rfl)) ?_
                refine wp_iconst (pc := 53) (v := 2) dX12_proves_53 (by decide) ?_
                refine wp_idiv (pc := 54) dX12_proves_54 (by decide) ?_
                refine wp_iload (pc := 55) dX12_proves_55 (by first | rfl | assumption | (repeat first | assumption | rfl | refine aG_n ?_ rfl rfl)) ?_
                refine wp_iload (pc := 57) dX12_proves_57 (by first | rfl | assumption | (repeat first | assumption | rfl | refine aG_n ?_ rfl rfl)) ?_
                refine wp_cS (pc := 59) dX12_proves_59 lk_12_357 rfl rfl rfl ?_
                refine wp_iload_n (pc := 0) dX12_sumBeside_0 (by first | rfl | assumption | (repeat first | assumption | rfl | refine aG_n ?_ rfl rfl)) ?_
                refine wp_iconst (pc := 1) (v := 2) dX12_sumBeside_1 (by decide) ?_
                refine wp_irem (pc := 2) dX12_sumBeside_2 (by decide) ?_
                refine wp_if_ne (pc := 3) (tgt := 14) dX12_sumBeside_3 rfl (fun q => absurd q (by decide)) (fun _ => ?_)
                refine wp_iload_n (pc := 6) dX12_sumBeside_6 (by first | rfl | assumption | (repeat first | assumption | rfl | refine aG_n ?_ rfl rfl)) ?_
                refine wp_iload_n (pc := 7) dX12_sumBeside_7 (by first | rfl | assumption | (repeat first | assumption | rfl | refine aG_n ?_ rfl rfl)) ?_
                refine wp_cS (pc := 8) dX12_sumBeside_8 lk_12_344 rfl rfl rfl (c_X12_sumOf (aK_i ?_))
                refine wp_goto (pc := 11) (tgt := 19) dX12_sumBeside_11 rfl ?_
                refine wp_iretK (pc := 19) dX12_sumBeside_19 rfl (by first | rfl | decide | assumption) ?_
                refine wp_istore (pc := 62) dX12_proves_62 (by decide) ?_
                refine wp_iload_n (pc := 64) dX12_proves_64 (by first | rfl | assumption | (repeat first | assumption | rfl | refine aG_n ?_ rfl rfl)) ?_
                refine wp_iconst (pc := 65) (v := 4) dX12_proves_65 (by decide) ?_
                refine wp_idiv (pc := 66) dX12_proves_66 (by decide) ?_
                refine wp_iload (pc := 67) dX12_proves_67 (by first | rfl | assumption | (repeat first | assumption | rfl | refine aG_n ?_ rfl rfl)) ?_
                refine wp_iload (pc := 69) dX12_proves_69 (by first | rfl | assumption | (repeat first | assumption | rfl | refine aG_n ?_ rfl rfl)) ?_
                refine wp_cS (pc := 71) dX12_proves_71 lk_12_357 rfl rfl rfl ?_
                refine wp_iload_n (pc := 0) dX12_sumBeside_0 (by first | rfl | assumption | (repeat first | assumption | rfl | refine aG_n ?_ rfl rfl)) ?_
                refine wp_iconst (pc := 1) (v := 2) dX12_sumBeside_1 (by decide) ?_
                refine wp_irem (pc := 2) dX12_sumBeside_2 (by decide) ?_
                refine wp_if_ne (pc := 3) (tgt := 14) dX12_sumBeside_3 rfl (fun q => absurd q (by decide)) (fun _ => ?_)
                refine wp_iload_n (pc := 6) dX12_sumBeside_6 (by first | rfl | assumption | (repeat first | assumption | rfl | refine aG_n ?_ rfl rfl)) ?_
                refine wp_iload_n (pc := 7) dX12_sumBeside_7 (by first | rfl | assumption | (repeat first | assumption | rfl | refine aG_n ?_ rfl rfl)) ?_
                refine wp_cS (pc := 8) dX12_sumBeside_8 lk_12_344 rfl rfl rfl (c_X12_sumOf (aK_i ?_))
                refine wp_goto (pc := 11) (tgt := 19) dX12_sumBeside_11 rfl ?_
                refine wp_iretK (pc := 19) dX12_sumBeside_19 rfl (by first | rfl | decide | assumption) ?_
                refine wp_aload_n (pc := 74) dX12_proves_74 (by first | rfl | assumption | (repeat first | assumption | rfl | refine aG_n ?_ rfl rfl)) ?_
                refine wp_iconst (pc := 75) (v := 0) dX12_proves_75 (by decide) ?_
                refine wp_bipush (pc := 76) (v := 8) dX12_proves_76 (by decide) ?_
                refine wp_cV (pc := 78) dX12_proves_78 lk_12_349 rfl (by decide) rfl (by first | rfl | assumption | exact sh_house (by omega) | exact sh_wish (by omega) | exact sh_wor (by omega) | exact sh_bar (by omega) | exact sh_term (by omega) | exact sh_sheet (by omega) | exact sh_items (by omega) | exact sh_sums (by omega)) rfl rfl ?_
                refine wp_aload_n (pc := 0) dX12_sumFrom_0 (by first | rfl | assumption | (repeat first | assumption | rfl | refine aG_n ?_ rfl rfl)) ?_
                refine wp_getR (pc := 1) dX12_sumFrom_1 fl_12_119 (by first | rfl | assumption | exact sh_house (by omega) | exact sh_wish (by omega) | exact sh_wor (by omega) | exact sh_bar (by omega) | exact sh_term (by omega) | exact sh_sheet (by omega) | exact sh_items (by omega) | exact sh_sums (by omega)) rfl ?_
                refine wp_iload_n (pc := 4) dX12_sumFrom_4 (by first | rfl | assumption | (repeat first | assumption | rfl | refine aG_n ?_ rfl rfl)) ?_
                refine wp_ialdC (pc := 5) (j := 0) dX12_sumFrom_5 (by first | rfl | assumption | exact sh_house (by omega) | exact sh_wish (by omega) | exact sh_wor (by omega) | exact sh_bar (by omega) | exact sh_term (by omega) | exact sh_sheet (by omega) | exact sh_items (by omega) | exact sh_sums (by omega)) (by decide) (by decide) ?_
                refine wp_aload_n (pc := 6) dX12_sumFrom_6 (by first | rfl | assumption | (repeat first | assumption | rfl | refine aG_n ?_ rfl rfl)) ?_
                refine wp_getR (pc := 7) dX12_sumFrom_7 fl_12_119 (by first | rfl | assumption | exact sh_house (by omega) | exact sh_wish (by omega) | exact sh_wor (by omega) | exact sh_bar (by omega) | exact sh_term (by omega) | exact sh_sheet (by omega) | exact sh_items (by omega) | exact sh_sums (by omega)) rfl ?_
                refine wp_iload_n (pc := 10) dX12_sumFrom_10 (by first | rfl | assumption | (repeat first | assumption | rfl | refine aG_n ?_ rfl rfl)) ?_
                refine wp_iconst (pc := 11) (v := 1) dX12_sumFrom_11 (by decide) ?_
                refine wp_iadd (pc := 12) dX12_sumFrom_12 ?_
                refine wp_bipush (pc := 13) (v := 8) dX12_sumFrom_13 (by decide) ?_
                refine wp_irem (pc := 15) dX12_sumFrom_15 (by decide) ?_
                refine wp_ialdC (pc := 16) (j := 1) dX12_sumFrom_16 (by first | rfl | assumption | exact sh_house (by omega) | exact sh_wish (by omega) | exact sh_wor (by omega) | exact sh_bar (by omega) | exact sh_term (by omega) | exact sh_sheet (by omega) | exact sh_items (by omega) | exact sh_sums (by omega)) (by decide) (by decide) ?_
                refine wp_cS (pc := 17) dX12_sumFrom_17 lk_12_344 rfl rfl rfl (c_X12_sumOf (aK_i ?_))
                refine wp_istore_n (pc := 20) dX12_sumFrom_20 (by decide) ?_
                refine wp_iload_n (pc := 21) dX12_sumFrom_21 (by first | rfl | assumption | (repeat first | assumption | rfl | refine aG_n ?_ rfl rfl)) ?_
                refine wp_iconst (pc := 22) (v := 4) dX12_sumFrom_22 (by decide) ?_
                refine wp_icmp_ge (pc := 23) (tgt := 42) dX12_sumFrom_23 rfl (fun _ => ?_) (fun q => absurd q (by decide))
                refine wp_iload_n (pc := 42) dX12_sumFrom_42 (by first | rfl | assumption | (repeat first | assumption | rfl | refine aG_n ?_ rfl rfl)) ?_
                refine wp_aload_n (pc := 43) dX12_sumFrom_43 (by first | rfl | assumption | (repeat first | assumption | rfl | refine aG_n ?_ rfl rfl)) ?_
                refine wp_getR (pc := 44) dX12_sumFrom_44 fl_12_119 (by first | rfl | assumption | exact sh_house (by omega) | exact sh_wish (by omega) | exact sh_wor (by omega) | exact sh_bar (by omega) | exact sh_term (by omega) | exact sh_sheet (by omega) | exact sh_items (by omega) | exact sh_sums (by omega)) rfl ?_
                refine wp_iload_n (pc := 47) dX12_sumFrom_47 (by first | rfl | assumption | (repeat first | assumption | rfl | refine aG_n ?_ rfl rfl)) ?_
                refine wp_iconst (pc := 48) (v := 2) dX12_sumFrom_48 (by decide) ?_
                refine wp_iadd (pc := 49) dX12_sumFrom_49 ?_
                refine wp_ialdC (pc := 50) (j := 2) dX12_sumFrom_50 (by first | rfl | assumption | exact sh_house (by omega) | exact sh_wish (by omega) | exact sh_wor (by omega) | exact sh_bar (by omega) | exact sh_term (by omega) | exact sh_sheet (by omega) | exact sh_items (by omega) | exact sh_sums (by omega)) (by decide) (by decide) ?_
                refine wp_aload_n (pc := 51) dX12_sumFrom_51 (by first | rfl | assumption | (repeat first | assumption | rfl | refine aG_n ?_ rfl rfl)) ?_
                refine wp_getR (pc := 52) dX12_sumFrom_52 fl_12_119 (by first | rfl | assumption | exact sh_house (by omega) | exact sh_wish (by omega) | exact sh_wor (by omega) | exact sh_bar (by omega) | exact sh_term (by omega) | exact sh_sheet (by omega) | exact sh_items (by omega) | exact sh_sums (by omega)) rfl ?_
                refine wp_iload_n (pc := 55) dX12_sumFrom_55 (by first | rfl | assumption | (repeat first | assumption | rfl | refine aG_n ?_ rfl rfl)) ?_
                refine wp_iconst (pc := 56) (v := 3) dX12_sumFrom_56 (by decide) ?_
                refine wp_iadd (pc := 57) dX12_sumFrom_57 ?_
                refine wp_ialdC (pc := 58) (j := 3) dX12_sumFrom_58 (by first | rfl | assumption | exact sh_house (by omega) | exact sh_wish (by omega) | exact sh_wor (by omega) | exact sh_bar (by omega) | exact sh_term (by omega) | exact sh_sheet (by omega) | exact sh_items (by omega) | exact sh_sums (by omega)) (by decide) (by decide) ?_
                refine wp_cS (pc := 59) dX12_sumFrom_59 lk_12_344 rfl rfl rfl (c_X12_sumOf (aK_i ?_))
                refine wp_cS (pc := 62) dX12_sumFrom_62 lk_12_344 rfl rfl rfl (c_X12_sumOf (aK_i ?_))
                refine wp_istore (pc := 65) dX12_sumFrom_65 (by decide) ?_
                refine wp_iload_n (pc := 67) dX12_sumFrom_67 (by first | rfl | assumption | (repeat first | assumption | rfl | refine aG_n ?_ rfl rfl)) ?_
                refine wp_iconst (pc := 68) (v := 4) dX12_sumFrom_68 (by decide) ?_
                refine wp_icmp_ne (pc := 69) (tgt := 75) dX12_sumFrom_69 rfl (fun _ => ?_) (fun q => absurd q (by decide))
                refine wp_iload (pc := 75) dX12_sumFrom_75 (by first | rfl | assumption | (repeat first | assumption | rfl | refine aG_n ?_ rfl rfl)) ?_
                refine wp_aload_n (pc := 77) dX12_sumFrom_77 (by first | rfl | assumption | (repeat first | assumption | rfl | refine aG_n ?_ rfl rfl)) ?_
                refine wp_getR (pc := 78) dX12_sumFrom_78 fl_12_119 (by first | rfl | assumption | exact sh_house (by omega) | exact sh_wish (by omega) | exact sh_wor (by omega) | exact sh_bar (by omega) | exact sh_term (by omega) | exact sh_sheet (by omega) | exact sh_items (by omega) | exact sh_sums (by omega)) rfl ?_
                refine wp_iconst (pc := 81) (v := 4) dX12_sumFrom_81 (by decide) ?_
                refine wp_ialdC (pc := 82) (j := 4) dX12_sumFrom_82 (by first | rfl | assumption | exact sh_house (by omega) | exact sh_wish (by omega) | exact sh_wor (by omega) | exact sh_bar (by omega) | exact sh_term (by omega) | exact sh_sheet (by omega) | exact sh_items (by omega) | exact sh_sums (by omega)) (by decide) (by decide) ?_
                refine wp_aload_n (pc := 83) dX12_sumFrom_83 (by first | rfl | assumption | (repeat first | assumption | rfl | refine aG_n ?_ rfl rfl)) ?_
                refine wp_getR (pc := 84) dX12_sumFrom_84 fl_12_119 (by first | rfl | assumption | exact sh_house (by omega) | exact sh_wish (by omega) | exact sh_wor (by omega) | exact sh_bar (by omega) | exact sh_term (by omega) | exact sh_sheet (by omega) | exact sh_items (by omega) | exact sh_sums (by omega)) rfl ?_
                refine wp_iconst (pc := 87) (v := 5) dX12_sumFrom_87 (by decide) ?_
                refine wp_ialdC (pc := 88) (j := 5) dX12_sumFrom_88 (by first | rfl | assumption | exact sh_house (by omega) | exact sh_wish (by omega) | exact sh_wor (by omega) | exact sh_bar (by omega) | exact sh_term (by omega) | exact sh_sheet (by omega) | exact sh_items (by omega) | exact sh_sums (by omega)) (by decide) (by decide) ?_
                refine wp_cS (pc := 89) dX12_sumFrom_89 lk_12_344 rfl rfl rfl (c_X12_sumOf (aK_i ?_))
                refine wp_aload_n (pc := 92) dX12_sumFrom_92 (by first | rfl | assumption | (repeat first | assumption | rfl | refine aG_n ?_ rfl rfl)) ?_
                refine wp_getR (pc := 93) dX12_sumFrom_93 fl_12_119 (by first | rfl | assumption | exact sh_house (by omega) | exact sh_wish (by omega) | exact sh_wor (by omega) | exact sh_bar (by omega) | exact sh_term (by omega) | exact sh_sheet (by omega) | exact sh_items (by omega) | exact sh_sums (by omega)) rfl ?_
                refine wp_bipush (pc := 96) (v := 6) dX12_sumFrom_96 (by decide) ?_
                refine wp_ialdC (pc := 98) (j := 6) dX12_sumFrom_98 (by first | rfl | assumption | exact sh_house (by omega) | exact sh_wish (by omega) | exact sh_wor (by omega) | exact sh_bar (by omega) | exact sh_term (by omega) | exact sh_sheet (by omega) | exact sh_items (by omega) | exact sh_sums (by omega)) (by decide) (by decide) ?_
                refine wp_aload_n (pc := 99) dX12_sumFrom_99 (by first | rfl | assumption | (repeat first | assumption | rfl | refine aG_n ?_ rfl rfl)) ?_
                refine wp_getR (pc := 100) dX12_sumFrom_100 fl_12_119 (by first | rfl | assumption | exact sh_house (by omega) | exact sh_wish (by omega) | exact sh_wor (by omega) | exact sh_bar (by omega) | exact sh_term (by omega) | exact sh_sheet (by omega) | exact sh_items (by omega) | exact sh_sums (by omega)) rfl ?_
                refine wp_bipush (pc := 103) (v := 7) dX12_sumFrom_103 (by decide) ?_
                refine wp_ialdC (pc := 105) (j := 7) dX12_sumFrom_105 (by first | rfl | assumption | exact sh_house (by omega) | exact sh_wish (by omega) | exact sh_wor (by omega) | exact sh_bar (by omega) | exact sh_term (by omega) | exact sh_sheet (by omega) | exact sh_items (by omega) | exact sh_sums (by omega)) (by decide) (by decide) ?_
                refine wp_cS (pc := 106) dX12_sumFrom_106 lk_12_344 rfl rfl rfl (c_X12_sumOf (aK_i ?_))
                refine wp_cS (pc := 109) dX12_sumFrom_109 lk_12_344 rfl rfl rfl (c_X12_sumOf (aK_i ?_))
                refine wp_cS (pc := 112) dX12_sumFrom_112 lk_12_344 rfl rfl rfl (c_X12_sumOf (aK_i ?_))
                refine wp_iretK (pc := 115) dX12_sumFrom_115 rfl (by first | rfl | decide | assumption) ?_
                refine wp_icmp_ne (pc := 81) (tgt := 88) dX12_proves_81 rfl (fun q => absurd (by rw [root_eq hR]; exact c5) q) (fun _ => ?_)
                refine wp_iconst (pc := 84) (v := 1) dX12_proves_84 (by decide) ?_
                refine wp_goto (pc := 85) (tgt := 89) dX12_proves_85 rfl ?_
                refine wp_ireturn (pc := 89) dX12_proves_89 rfl (by first | rfl | decide | assumption) ?_
                exact k' _ hI
              · skip
                refine wp_iload_n (pc := 0) dX11_proves_0 (by first | rfl | assumption | (repeat first | assumption | rfl | refine aG_n ?_ rfl rfl)) ?_
                refine wp_iconst (pc := 1) (v := 0) dX11_proves_1 (by decide) ?_
                refine wp_bipush (pc := 2) (v := 7) dX11_proves_2 (by decide) ?_
                refine wp_cS (pc := 4) dX11_proves_4 lk_11_112 rfl rfl rfl (c_X11_isWithin (fun _ => aK_i ?_) (fun q => absurd c0 q))
                refine wp_if_eq (pc := 7) (tgt := 40) dX11_proves_7 rfl (fun q => absurd q (by decide)) (fun _ => ?_)
                refine wp_iload_n (pc := 10) dX11_proves_10 (by first | rfl | assumption | (repeat first | assumption | rfl | refine aG_n ?_ rfl rfl)) ?_
                refine wp_cS (pc := 11) dX11_proves_11 lk_11_355 rfl rfl rfl (c_X11_isSum (fun _ => aK_i ?_) (fun q => absurd c1 q))
                refine wp_if_eq (pc := 14) (tgt := 40) dX11_proves_14 rfl (fun q => absurd q (by decide)) (fun _ => ?_)
                refine wp_iload_n (pc := 17) dX11_proves_17 (by first | rfl | assumption | (repeat first | assumption | rfl | refine aG_n ?_ rfl rfl)) ?_
                refine wp_cS (pc := 18) dX11_proves_18 lk_11_355 rfl rfl rfl (c_X11_isSum (fun _ => aK_i ?_) (fun q => absurd c2 q))
                refine wp_if_eq (pc := 21) (tgt := 40) dX11_proves_21 rfl (fun q => absurd q (by decide)) (fun _ => ?_)
                refine wp_iload (pc := 24) dX11_proves_24 (by first | rfl | assumption | (repeat first | assumption | rfl | refine aG_n ?_ rfl rfl)) ?_
                refine wp_cS (pc := 26) dX11_proves_26 lk_11_355 rfl rfl rfl (c_X11_isSum (fun _ => aK_i ?_) (fun q => absurd c3 q))
                refine wp_if_eq (pc := 29) (tgt := 40) dX11_proves_29 rfl (fun q => absurd q (by decide)) (fun _ => ?_)
                refine wp_iload (pc := 32) dX11_proves_32 (by first | rfl | assumption | (repeat first | assumption | rfl | refine aG_n ?_ rfl rfl)) ?_
                refine wp_cS (pc := 34) dX11_proves_34 lk_11_355 rfl rfl rfl (c_X11_isSum (fun _ => aK_i ?_) (fun q => absurd c4 q))
                refine wp_if_ne (pc := 37) (tgt := 42) dX11_proves_37 rfl (fun _ => ?_) (fun q => absurd q (by decide))
                refine wp_iload_n (pc := 42) dX11_proves_42 (by first | rfl | assumption | (repeat first | assumption | rfl | refine aG_n ?_ rfl rfl)) ?_
                refine wp_iload_n (pc := 43) dX11_proves_43 (by first | rfl | assumption | (repeat first | assumption | rfl | refine aG_n ?_ rfl rfl)) ?_
                refine wp_iload_n (pc := 44) dX11_proves_44 (by first | rfl | assumption | (repeat first | assumption | rfl | refine aG_n ?_ rfl rfl)) ?_
                refine wp_cS (pc := 45) dX11_proves_45 lk_11_358 rfl rfl rfl ?_
                refine wp_iload_n (pc := 0) dX5_climb_0 (by first | rfl | assumption | (repeat first | assumption | rfl | refine aG_n ?_ rfl rfl)) ?_
                refine wp_iconst (pc := 1) (v := 1) dX5_climb_1 (by decide) ?_
                refine wp_iand (pc := 2) dX5_climb_2 ?_
                refine wp_if_ne (pc := 3) (tgt := 14) dX5_climb_3 rfl (fun q => absurd q (by decide)) (fun _ => ?_)
                refine wp_iload_n (pc := 6) dX5_climb_6 (by first | rfl | assumption | (repeat first | assumption | rfl | refine aG_n ?_ rfl rfl)) ?_
                refine wp_iload_n (pc := 7) dX5_climb_7 (by first | rfl | assumption | (repeat first | assumption | rfl | refine aG_n ?_ rfl rfl)) ?_
                refine wp_cS (pc := 8) dX5_climb_8 lk_5_13 rfl rfl rfl (c_X5_sum (aK_i ?_))
                refine wp_goto (pc := 11) (tgt := 19) dX5_climb_11 rfl ?_
                refine wp_iretK (pc := 19) dX5_climb_19 rfl (by first | rfl | decide | assumption) ?_
                refine wp_istore (pc := 48) dX11_proves_48 (by decide) ?_
                refine wp_iload_n (pc := 50) dX11_proves_50 (by first | rfl | assumption | (repeat first | assumption | rfl | refine aG_n ?_ rfl rfl)) ?_
                refine wp_iconst (pc := 51) (v := 1) dX11_proves_51 (by decide) ?_
                refine wp_ishr (pc := 52) dX11_proves_52 ?_
                refine wp_iload (pc := 53) dX11_proves_53 (by first | rfl | assumption | (repeat first | assumption | rfl | refine aG_n ?_ rfl rfl)) ?_
                refine wp_iload (pc := 55) dX11_proves_55 (by first | rfl | assumption | (repeat first | assumption | rfl | refine aG_n ?_ rfl rfl)) ?_
                refine wp_cS (pc := 57) dX11_proves_57 lk_11_358 rfl rfl rfl ?_
                refine wp_iload_n (pc := 0) dX5_climb_0 (by first | rfl | assumption | (repeat first | assumption | rfl | refine aG_n ?_ rfl rfl)) ?_
                refine wp_iconst (pc := 1) (v := 1) dX5_climb_1 (by decide) ?_
                refine wp_iand (pc := 2) dX5_climb_2 ?_
                refine wp_if_ne (pc := 3) (tgt := 14) dX5_climb_3 rfl (fun q => absurd q (by decide)) (fun _ => ?_)
                refine wp_iload_n (pc := 6) dX5_climb_6 (by first | rfl | assumption | (repeat first | assumption | rfl | refine aG_n ?_ rfl rfl)) ?_
                refine wp_iload_n (pc := 7) dX5_climb_7 (by first | rfl | assumption | (repeat first | assumption | rfl | refine aG_n ?_ rfl rfl)) ?_
                refine wp_cS (pc := 8) dX5_climb_8 lk_5_13 rfl rfl rfl (c_X5_sum (aK_i ?_))
                refine wp_goto (pc := 11) (tgt := 19) dX5_climb_11 rfl ?_
                refine wp_iretK (pc := 19) dX5_climb_19 rfl (by first | rfl | decide | assumption) ?_
                refine wp_istore (pc := 60) dX11_proves_60 (by decide) ?_
                refine wp_iload_n (pc := 62) dX11_proves_62 (by first | rfl | assumption | (repeat first | assumption | rfl | refine aG_n ?_ rfl rfl)) ?_
                refine wp_iconst (pc := 63) (v := 2) dX11_proves_63 (by decide) ?_
                refine wp_ishr (pc := 64) dX11_proves_64 ?_
                refine wp_iload (pc := 65) dX11_proves_65 (by first | rfl | assumption | (repeat first | assumption | rfl | refine aG_n ?_ rfl rfl)) ?_
                refine wp_iload (pc := 67) dX11_proves_67 (by first | rfl | assumption | (repeat first | assumption | rfl | refine aG_n ?_ rfl rfl)) ?_
                refine wp_cS (pc := 69) dX11_proves_69 lk_11_358 rfl rfl rfl ?_
                refine wp_iload_n (pc := 0) dX5_climb_0 (by first | rfl | assumption | (repeat first | assumption | rfl | refine aG_n ?_ rfl rfl)) ?_
                refine wp_iconst (pc := 1) (v := 1) dX5_climb_1 (by decide) ?_
                refine wp_iand (pc := 2) dX5_climb_2 ?_
                refine wp_if_ne (pc := 3) (tgt := 14) dX5_climb_3 rfl (fun q => absurd q (by decide)) (fun _ => ?_)
                refine wp_iload_n (pc := 6) dX5_climb_6 (by first | rfl | assumption | (repeat first | assumption | rfl | refine aG_n ?_ rfl rfl)) ?_
                refine wp_iload_n (pc := 7) dX5_climb_7 (by first | rfl | assumption | (repeat first | assumption | rfl | refine aG_n ?_ rfl rfl)) ?_
                refine wp_cS (pc := 8) dX5_climb_8 lk_5_13 rfl rfl rfl (c_X5_sum (aK_i ?_))
                refine wp_goto (pc := 11) (tgt := 19) dX5_climb_11 rfl ?_
                refine wp_iretK (pc := 19) dX5_climb_19 rfl (by first | rfl | decide | assumption) ?_
                refine wp_istore (pc := 72) dX11_proves_72 (by decide) ?_
                refine wp_iload (pc := 74) dX11_proves_74 (by first | rfl | assumption | (repeat first | assumption | rfl | refine aG_n ?_ rfl rfl)) ?_
                refine wp_aload_n (pc := 76) dX11_proves_76 (by first | rfl | assumption | (repeat first | assumption | rfl | refine aG_n ?_ rfl rfl)) ?_
                refine wp_getR (pc := 77) dX11_proves_77 fl_11_60 (by first | rfl | assumption | exact sh_house (by omega) | exact sh_wish (by omega) | exact sh_wor (by omega) | exact sh_bar (by omega) | exact sh_term (by omega) | exact sh_sheet (by omega) | exact sh_items (by omega) | exact sh_sums (by omega)) rfl ?_
                refine wp_getR (pc := 80) dX11_proves_80 fl_11_349 (by first | rfl | assumption | exact sh_house (by omega) | exact sh_wish (by omega) | exact sh_wor (by omega) | exact sh_bar (by omega) | exact sh_term (by omega) | exact sh_sheet (by omega) | exact sh_items (by omega) | exact sh_sums (by omega)) rfl ?_
                refine wp_iconst (pc := 83) (v := 1) dX11_proves_83 (by decide) ?_
                refine wp_ialdC (pc := 84) (j := 1) dX11_proves_84 (by first | rfl | assumption | exact sh_house (by omega) | exact sh_wish (by omega) | exact sh_wor (by omega) | exact sh_bar (by omega) | exact sh_term (by omega) | exact sh_sheet (by omega) | exact sh_items (by omega) | exact sh_sums (by omega)) (by decide) (by decide) ?_
                refine wp_icmp_ne (pc := 85) (tgt := 92) dX11_proves_85 rfl (fun _ => ?_) (fun q => absurd q c5)
                refine wp_iconst (pc := 92) (v := 0) dX11_proves_92 (by decide) ?_
                refine wp_cS (pc := 93) dX11_proves_93 lk_11_148 rfl rfl rfl ?_
                refine wp_iload_n (pc := 0) dX11_oneIf_0 (by first | rfl | assumption | (repeat first | assumption | rfl | refine aG_n ?_ rfl rfl)) ?_
                refine wp_if_eq (pc := 1) (tgt := 8) dX11_oneIf_1 rfl (fun _ => ?_) (fun q => absurd q (by decide))
                refine wp_iconst (pc := 8) (v := 0) dX11_oneIf_8 (by decide) ?_
                refine wp_iretK (pc := 9) dX11_oneIf_9 rfl (by first | rfl | decide | assumption) ?_
                refine wp_ireturn (pc := 96) dX11_proves_96 rfl (by first | rfl | decide | assumption) ?_
                refine k _ _ (fun Q' k' => ?_)
                refine wp_iload_n (pc := 0) dX12_proves_0 (by first | rfl | assumption | (repeat first | assumption | rfl | refine aG_n ?_ rfl rfl)) ?_
                refine wp_i2l (pc := 1) dX12_proves_1 ?_
                refine wp_lconst (pc := 2) (v := 0) dX12_proves_2 (by decide) ?_
                refine wp_ldc2 (pc := 3) dX12_proves_3 cl_12_347 ?_
                refine wp_cS (pc := 6) dX12_proves_6 lk_12_133 rfl rfl rfl (c_X12_in (fun _ => aK_i ?_) (fun q => absurd (by rw [w_int]; exact c0) q))
                refine wp_if_eq (pc := 9) (tgt := 42) dX12_proves_9 rfl (fun q => absurd q (by decide)) (fun _ => ?_)
                refine wp_iload_n (pc := 12) dX12_proves_12 (by first | rfl | assumption | (repeat first | assumption | rfl | refine aG_n ?_ rfl rfl)) ?_
                refine wp_cS (pc := 13) dX12_proves_13 lk_12_354 rfl rfl rfl (c_X12_isSum (fun _ => aK_i ?_) (fun q => absurd c1 q))
                refine wp_if_eq (pc := 16) (tgt := 42) dX12_proves_16 rfl (fun q => absurd q (by decide)) (fun _ => ?_)
                refine wp_iload_n (pc := 19) dX12_proves_19 (by first | rfl | assumption | (repeat first | assumption | rfl | refine aG_n ?_ rfl rfl)) ?_
                refine wp_cS (pc := 20) dX12_proves_20 lk_12_354 rfl rfl rfl (c_X12_isSum (fun _ => aK_i ?_) (fun q => absurd c2 q))
                refine wp_if_eq (pc := 23) (tgt := 42) dX12_proves_23 rfl (fun q => absurd q (by decide)) (fun _ => ?_)
                refine wp_iload (pc := 26) dX12_proves_26 (by first | rfl | assumption | (repeat first | assumption | rfl | refine aG_n ?_ rfl rfl)) ?_
                refine wp_cS (pc := 28) dX12_proves_28 lk_12_354 rfl rfl rfl (c_X12_isSum (fun _ => aK_i ?_) (fun q => absurd c3 q))
                refine wp_if_eq (pc := 31) (tgt := 42) dX12_proves_31 rfl (fun q => absurd q (by decide)) (fun _ => ?_)
                refine wp_iload (pc := 34) dX12_proves_34 (by first | rfl | assumption | (repeat first | assumption | rfl | refine aG_n ?_ rfl rfl)) ?_
                refine wp_cS (pc := 36) dX12_proves_36 lk_12_354 rfl rfl rfl (c_X12_isSum (fun _ => aK_i ?_) (fun q => absurd c4 q))
                refine wp_if_ne (pc := 39) (tgt := 44) dX12_proves_39 rfl (fun _ => ?_) (fun q => absurd q (by decide))
                refine wp_iload_n (pc := 44) dX12_proves_44 (by first | rfl | assumption | (repeat first | assumption | rfl | refine aG_n ?_ rfl rfl)) ?_
                refine wp_iload_n (pc := 45) dX12_proves_45 (by first | rfl | assumption | (repeat first | assumption | rfl | refine aG_n ?_ rfl rfl)) ?_
                refine wp_iload_n (pc := 46) dX12_proves_46 (by first | rfl | assumption | (repeat first | assumption | rfl | refine aG_n ?_ rfl rfl)) ?_
                refine wp_cS (pc := 47) dX12_proves_47 lk_12_357 rfl rfl rfl ?_
                refine wp_iload_n (pc := 0) dX12_sumBeside_0 (by first | rfl | assumption | (repeat first | assumption | rfl | refine aG_n ?_ rfl rfl)) ?_
                refine wp_iconst (pc := 1) (v := 2) dX12_sumBeside_1 (by decide) ?_
                refine wp_irem (pc := 2) dX12_sumBeside_2 (by decide) ?_
                refine wp_if_ne (pc := 3) (tgt := 14) dX12_sumBeside_3 rfl (fun q => absurd q (by decide)) (fun _ => ?_)
                refine wp_iload_n (pc := 6) dX12_sumBeside_6 (by first | rfl | assumption | (repeat first | assumption | rfl | refine aG_n ?_ rfl rfl)) ?_
                refine wp_iload_n (pc := 7) dX12_sumBeside_7 (by first | rfl | assumption | (repeat first | assumption | rfl | refine aG_n ?_ rfl rfl)) ?_
                refine wp_cS (pc := 8) dX12_sumBeside_8 lk_12_344 rfl rfl rfl (c_X12_sumOf (aK_i ?_))
                refine wp_goto (pc := 11) (tgt := 19) dX12_sumBeside_11 rfl ?_
                refine wp_iretK (pc := 19) dX12_sumBeside_19 rfl (by first | rfl | decide | assumption) ?_
                refine wp_istore (pc := 50) dX12_proves_50 (by decide) ?_
                refine wp_iload_n (pc := 52) dX12_proves_52 (by first | rfl | assumption | (repeat first | assumption | rfl | refine aG_n ?_ rfl rfl)) ?_
                refine wp_iconst (pc := 53) (v := 2) dX12_proves_53 (by decide) ?_
                refine wp_idiv (pc := 54) dX12_proves_54 (by decide) ?_
                refine wp_iload (pc := 55) dX12_proves_55 (by first | rfl | assumption | (repeat first | assumption | rfl | refine aG_n ?_ rfl rfl)) ?_
                refine wp_iload (pc := 57) dX12_proves_57 (by first | rfl | assumption | (repeat first | assumption | rfl | refine aG_n ?_ rfl rfl)) ?_
                refine wp_cS (pc := 59) dX12_proves_59 lk_12_357 rfl rfl rfl ?_
                refine wp_iload_n (pc := 0) dX12_sumBeside_0 (by first | rfl | assumption | (repeat first | assumption | rfl | refine aG_n ?_ rfl rfl)) ?_
                refine wp_iconst (pc := 1) (v := 2) dX12_sumBeside_1 (by decide) ?_
                refine wp_irem (pc := 2) dX12_sumBeside_2 (by decide) ?_
                refine wp_if_ne (pc := 3) (tgt := 14) dX12_sumBeside_3 rfl (fun q => absurd q (by decide)) (fun _ => ?_)
                refine wp_iload_n (pc := 6) dX12_sumBeside_6 (by first | rfl | assumption | (repeat first | assumption | rfl | refine aG_n ?_ rfl rfl)) ?_
                refine wp_iload_n (pc := 7) dX12_sumBeside_7 (by first | rfl | assumption | (repeat first | assumption | rfl | refine aG_n ?_ rfl rfl)) ?_
                refine wp_cS (pc := 8) dX12_sumBeside_8 lk_12_344 rfl rfl rfl (c_X12_sumOf (aK_i ?_))
                refine wp_goto (pc := 11) (tgt := 19) dX12_sumBeside_11 rfl ?_
                refine wp_iretK (pc := 19) dX12_sumBeside_19 rfl (by first | rfl | decide | assumption) ?_
                refine wp_istore (pc := 62) dX12_proves_62 (by decide) ?_
                refine wp_iload_n (pc := 64) dX12_proves_64 (by first | rfl | assumption | (repeat first | assumption | rfl | refine aG_n ?_ rfl rfl)) ?_
                refine wp_iconst (pc := 65) (v := 4) dX12_proves_65 (by decide) ?_
                refine wp_idiv (pc := 66) dX12_proves_66 (by decide) ?_
                refine wp_iload (pc := 67) dX12_proves_67 (by first | rfl | assumption | (repeat first | assumption | rfl | refine aG_n ?_ rfl rfl)) ?_
                refine wp_iload (pc := 69) dX12_proves_69 (by first | rfl | assumption | (repeat first | assumption | rfl | refine aG_n ?_ rfl rfl)) ?_
                refine wp_cS (pc := 71) dX12_proves_71 lk_12_357 rfl rfl rfl ?_
                refine wp_iload_n (pc := 0) dX12_sumBeside_0 (by first | rfl | assumption | (repeat first | assumption | rfl | refine aG_n ?_ rfl rfl)) ?_
                refine wp_iconst (pc := 1) (v := 2) dX12_sumBeside_1 (by decide) ?_
                refine wp_irem (pc := 2) dX12_sumBeside_2 (by decide) ?_
                refine wp_if_ne (pc := 3) (tgt := 14) dX12_sumBeside_3 rfl (fun q => absurd q (by decide)) (fun _ => ?_)
                refine wp_iload_n (pc := 6) dX12_sumBeside_6 (by first | rfl | assumption | (repeat first | assumption | rfl | refine aG_n ?_ rfl rfl)) ?_
                refine wp_iload_n (pc := 7) dX12_sumBeside_7 (by first | rfl | assumption | (repeat first | assumption | rfl | refine aG_n ?_ rfl rfl)) ?_
                refine wp_cS (pc := 8) dX12_sumBeside_8 lk_12_344 rfl rfl rfl (c_X12_sumOf (aK_i ?_))
                refine wp_goto (pc := 11) (tgt := 19) dX12_sumBeside_11 rfl ?_
                refine wp_iretK (pc := 19) dX12_sumBeside_19 rfl (by first | rfl | decide | assumption) ?_
                refine wp_aload_n (pc := 74) dX12_proves_74 (by first | rfl | assumption | (repeat first | assumption | rfl | refine aG_n ?_ rfl rfl)) ?_
                refine wp_iconst (pc := 75) (v := 0) dX12_proves_75 (by decide) ?_
                refine wp_bipush (pc := 76) (v := 8) dX12_proves_76 (by decide) ?_
                refine wp_cV (pc := 78) dX12_proves_78 lk_12_349 rfl (by decide) rfl (by first | rfl | assumption | exact sh_house (by omega) | exact sh_wish (by omega) | exact sh_wor (by omega) | exact sh_bar (by omega) | exact sh_term (by omega) | exact sh_sheet (by omega) | exact sh_items (by omega) | exact sh_sums (by omega)) rfl rfl ?_
                refine wp_aload_n (pc := 0) dX12_sumFrom_0 (by first | rfl | assumption | (repeat first | assumption | rfl | refine aG_n ?_ rfl rfl)) ?_
                refine wp_getR (pc := 1) dX12_sumFrom_1 fl_12_119 (by first | rfl | assumption | exact sh_house (by omega) | exact sh_wish (by omega) | exact sh_wor (by omega) | exact sh_bar (by omega) | exact sh_term (by omega) | exact sh_sheet (by omega) | exact sh_items (by omega) | exact sh_sums (by omega)) rfl ?_
                refine wp_iload_n (pc := 4) dX12_sumFrom_4 (by first | rfl | assumption | (repeat first | assumption | rfl | refine aG_n ?_ rfl rfl)) ?_
                refine wp_ialdC (pc := 5) (j := 0) dX12_sumFrom_5 (by first | rfl | assumption | exact sh_house (by omega) | exact sh_wish (by omega) | exact sh_wor (by omega) | exact sh_bar (by omega) | exact sh_term (by omega) | exact sh_sheet (by omega) | exact sh_items (by omega) | exact sh_sums (by omega)) (by decide) (by decide) ?_
                refine wp_aload_n (pc := 6) dX12_sumFrom_6 (by first | rfl | assumption | (repeat first | assumption | rfl | refine aG_n ?_ rfl rfl)) ?_
                refine wp_getR (pc := 7) dX12_sumFrom_7 fl_12_119 (by first | rfl | assumption | exact sh_house (by omega) | exact sh_wish (by omega) | exact sh_wor (by omega) | exact sh_bar (by omega) | exact sh_term (by omega) | exact sh_sheet (by omega) | exact sh_items (by omega) | exact sh_sums (by omega)) rfl ?_
                refine wp_iload_n (pc := 10) dX12_sumFrom_10 (by first | rfl | assumption | (repeat first | assumption | rfl | refine aG_n ?_ rfl rfl)) ?_
                refine wp_iconst (pc := 11) (v := 1) dX12_sumFrom_11 (by decide) ?_
                refine wp_iadd (pc := 12) dX12_sumFrom_12 ?_
                refine wp_bipush (pc := 13) (v := 8) dX12_sumFrom_13 (by decide) ?_
                refine wp_irem (pc := 15) dX12_sumFrom_15 (by decide) ?_
                refine wp_ialdC (pc := 16) (j := 1) dX12_sumFrom_16 (by first | rfl | assumption | exact sh_house (by omega) | exact sh_wish (by omega) | exact sh_wor (by omega) | exact sh_bar (by omega) | exact sh_term (by omega) | exact sh_sheet (by omega) | exact sh_items (by omega) | exact sh_sums (by omega)) (by decide) (by decide) ?_
                refine wp_cS (pc := 17) dX12_sumFrom_17 lk_12_344 rfl rfl rfl (c_X12_sumOf (aK_i ?_))
                refine wp_istore_n (pc := 20) dX12_sumFrom_20 (by decide) ?_
                refine wp_iload_n (pc := 21) dX12_sumFrom_21 (by first | rfl | assumption | (repeat first | assumption | rfl | refine aG_n ?_ rfl rfl)) ?_
                refine wp_iconst (pc := 22) (v := 4) dX12_sumFrom_22 (by decide) ?_
                refine wp_icmp_ge (pc := 23) (tgt := 42) dX12_sumFrom_23 rfl (fun _ => ?_) (fun q => absurd q (by decide))
                refine wp_iload_n (pc := 42) dX12_sumFrom_42 (by first | rfl | assumption | (repeat first | assumption | rfl | refine aG_n ?_ rfl rfl)) ?_
                refine wp_aload_n (pc := 43) dX12_sumFrom_43 (by first | rfl | assumption | (repeat first | assumption | rfl | refine aG_n ?_ rfl rfl)) ?_
                refine wp_getR (pc := 44) dX12_sumFrom_44 fl_12_119 (by first | rfl | assumption | exact sh_house (by omega) | exact sh_wish (by omega) | exact sh_wor (by omega) | exact sh_bar (by omega) | exact sh_term (by omega) | exact sh_sheet (by omega) | exact sh_items (by omega) | exact sh_sums (by omega)) rfl ?_
                refine wp_iload_n (pc := 47) dX12_sumFrom_47 (by first | rfl | assumption | (repeat first | assumption | rfl | refine aG_n ?_ rfl rfl)) ?_
                refine wp_iconst (pc := 48) (v := 2) dX12_sumFrom_48 (by decide) ?_
                refine wp_iadd (pc := 49) dX12_sumFrom_49 ?_
                refine wp_ialdC (pc := 50) (j := 2) dX12_sumFrom_50 (by first | rfl | assumption | exact sh_house (by omega) | exact sh_wish (by omega) | exact sh_wor (by omega) | exact sh_bar (by omega) | exact sh_term (by omega) | exact sh_sheet (by omega) | exact sh_items (by omega) | exact sh_sums (by omega)) (by decide) (by decide) ?_
                refine wp_aload_n (pc := 51) dX12_sumFrom_51 (by first | rfl | assumption | (repeat first | assumption | rfl | refine aG_n ?_ rfl rfl)) ?_
                refine wp_getR (pc := 52) dX12_sumFrom_52 fl_12_119 (by first | rfl | assumption | exact sh_house (by omega) | exact sh_wish (by omega) | exact sh_wor (by omega) | exact sh_bar (by omega) | exact sh_term (by omega) | exact sh_sheet (by omega) | exact sh_items (by omega) | exact sh_sums (by omega)) rfl ?_
                refine wp_iload_n (pc := 55) dX12_sumFrom_55 (by first | rfl | assumption | (repeat first | assumption | rfl | refine aG_n ?_ rfl rfl)) ?_
                refine wp_iconst (pc := 56) (v := 3) dX12_sumFrom_56 (by decide) ?_
                refine wp_iadd (pc := 57) dX12_sumFrom_57 ?_
                refine wp_ialdC (pc := 58) (j := 3) dX12_sumFrom_58 (by first | rfl | assumption | exact sh_house (by omega) | exact sh_wish (by omega) | exact sh_wor (by omega) | exact sh_bar (by omega) | exact sh_term (by omega) | exact sh_sheet (by omega) | exact sh_items (by omega) | exact sh_sums (by omega)) (by decide) (by decide) ?_
                refine wp_cS (pc := 59) dX12_sumFrom_59 lk_12_344 rfl rfl rfl (c_X12_sumOf (aK_i ?_))
                refine wp_cS (pc := 62) dX12_sumFrom_62 lk_12_344 rfl rfl rfl (c_X12_sumOf (aK_i ?_))
                refine wp_istore (pc := 65) dX12_sumFrom_65 (by decide) ?_
                refine wp_iload_n (pc := 67) dX12_sumFrom_67 (by first | rfl | assumption | (repeat first | assumption | rfl | refine aG_n ?_ rfl rfl)) ?_
                refine wp_iconst (pc := 68) (v := 4) dX12_sumFrom_68 (by decide) ?_
                refine wp_icmp_ne (pc := 69) (tgt := 75) dX12_sumFrom_69 rfl (fun _ => ?_) (fun q => absurd q (by decide))
                refine wp_iload (pc := 75) dX12_sumFrom_75 (by first | rfl | assumption | (repeat first | assumption | rfl | refine aG_n ?_ rfl rfl)) ?_
                refine wp_aload_n (pc := 77) dX12_sumFrom_77 (by first | rfl | assumption | (repeat first | assumption | rfl | refine aG_n ?_ rfl rfl)) ?_
                refine wp_getR (pc := 78) dX12_sumFrom_78 fl_12_119 (by first | rfl | assumption | exact sh_house (by omega) | exact sh_wish (by omega) | exact sh_wor (by omega) | exact sh_bar (by omega) | exact sh_term (by omega) | exact sh_sheet (by omega) | exact sh_items (by omega) | exact sh_sums (by omega)) rfl ?_
                refine wp_iconst (pc := 81) (v := 4) dX12_sumFrom_81 (by decide) ?_
                refine wp_ialdC (pc := 82) (j := 4) dX12_sumFrom_82 (by first | rfl | assumption | exact sh_house (by omega) | exact sh_wish (by omega) | exact sh_wor (by omega) | exact sh_bar (by omega) | exact sh_term (by omega) | exact sh_sheet (by omega) | exact sh_items (by omega) | exact sh_sums (by omega)) (by decide) (by decide) ?_
                refine wp_aload_n (pc := 83) dX12_sumFrom_83 (by first | rfl | assumption | (repeat first | assumption | rfl | refine aG_n ?_ rfl rfl)) ?_
                refine wp_getR (pc := 84) dX12_sumFrom_84 fl_12_119 (by first | rfl | assumption | exact sh_house (by omega) | exact sh_wish (by omega) | exact sh_wor (by omega) | exact sh_bar (by omega) | exact sh_term (by omega) | exact sh_sheet (by omega) | exact sh_items (by omega) | exact sh_sums (by omega)) rfl ?_
                refine wp_iconst (pc := 87) (v := 5) dX12_sumFrom_87 (by decide) ?_
                refine wp_ialdC (pc := 88) (j := 5) dX12_sumFrom_88 (by first | rfl | assumption | exact sh_house (by omega) | exact sh_wish (by omega) | exact sh_wor (by omega) | exact sh_bar (by omega) | exact sh_term (by omega) | exact sh_sheet (by omega) | exact sh_items (by omega) | exact sh_sums (by omega)) (by decide) (by decide) ?_
                refine wp_cS (pc := 89) dX12_sumFrom_89 lk_12_344 rfl rfl rfl (c_X12_sumOf (aK_i ?_))
                refine wp_aload_n (pc := 92) dX12_sumFrom_92 (by first | rfl | assumption | (repeat first | assumption | rfl | refine aG_n ?_ rfl rfl)) ?_
                refine wp_getR (pc := 93) dX12_sumFrom_93 fl_12_119 (by first | rfl | assumption | exact sh_house (by omega) | exact sh_wish (by omega) | exact sh_wor (by omega) | exact sh_bar (by omega) | exact sh_term (by omega) | exact sh_sheet (by omega) | exact sh_items (by omega) | exact sh_sums (by omega)) rfl ?_
                refine wp_bipush (pc := 96) (v := 6) dX12_sumFrom_96 (by decide) ?_
                refine wp_ialdC (pc := 98) (j := 6) dX12_sumFrom_98 (by first | rfl | assumption | exact sh_house (by omega) | exact sh_wish (by omega) | exact sh_wor (by omega) | exact sh_bar (by omega) | exact sh_term (by omega) | exact sh_sheet (by omega) | exact sh_items (by omega) | exact sh_sums (by omega)) (by decide) (by decide) ?_
                refine wp_aload_n (pc := 99) dX12_sumFrom_99 (by first | rfl | assumption | (repeat first | assumption | rfl | refine aG_n ?_ rfl rfl)) ?_
                refine wp_getR (pc := 100) dX12_sumFrom_100 fl_12_119 (by first | rfl | assumption | exact sh_house (by omega) | exact sh_wish (by omega) | exact sh_wor (by omega) | exact sh_bar (by omega) | exact sh_term (by omega) | exact sh_sheet (by omega) | exact sh_items (by omega) | exact sh_sums (by omega)) rfl ?_
                refine wp_bipush (pc := 103) (v := 7) dX12_sumFrom_103 (by decide) ?_
                refine wp_ialdC (pc := 105) (j := 7) dX12_sumFrom_105 (by first | rfl | assumption | exact sh_house (by omega) | exact sh_wish (by omega) | exact sh_wor (by omega) | exact sh_bar (by omega) | exact sh_term (by omega) | exact sh_sheet (by omega) | exact sh_items (by omega) | exact sh_sums (by omega)) (by decide) (by decide) ?_
                refine wp_cS (pc := 106) dX12_sumFrom_106 lk_12_344 rfl rfl rfl (c_X12_sumOf (aK_i ?_))
                refine wp_cS (pc := 109) dX12_sumFrom_109 lk_12_344 rfl rfl rfl (c_X12_sumOf (aK_i ?_))
                refine wp_cS (pc := 112) dX12_sumFrom_112 lk_12_344 rfl rfl rfl (c_X12_sumOf (aK_i ?_))
                refine wp_iretK (pc := 115) dX12_sumFrom_115 rfl (by first | rfl | decide | assumption) ?_
                refine wp_icmp_ne (pc := 81) (tgt := 88) dX12_proves_81 rfl (fun _ => ?_) (fun q => absurd q (by rw [root_eq hR]; exact c5))
                refine wp_iconst (pc := 88) (v := 0) dX12_proves_88 (by decide) ?_
                refine wp_ireturn (pc := 89) dX12_proves_89 rfl (by first | rfl | decide | assumption) ?_
                exact k' _ hI
            | 1, _ =>
              by_cases c5 : sm2 (sm2 (sm2 (x) (v)) (y)) (z) = μ.1 53 1
              · skip
                refine wp_iload_n (pc := 0) dX11_proves_0 (by first | rfl | assumption | (repeat first | assumption | rfl | refine aG_n ?_ rfl rfl)) ?_
                refine wp_iconst (pc := 1) (v := 0) dX11_proves_1 (by decide) ?_
                refine wp_bipush (pc := 2) (v := 7) dX11_proves_2 (by decide) ?_
                refine wp_cS (pc := 4) dX11_proves_4 lk_11_112 rfl rfl rfl (c_X11_isWithin (fun _ => aK_i ?_) (fun q => absurd c0 q))
                refine wp_if_eq (pc := 7) (tgt := 40) dX11_proves_7 rfl (fun q => absurd q (by decide)) (fun _ => ?_)
                refine wp_iload_n (pc := 10) dX11_proves_10 (by first | rfl | assumption | (repeat first | assumption | rfl | refine aG_n ?_ rfl rfl)) ?_
                refine wp_cS (pc := 11) dX11_proves_11 lk_11_355 rfl rfl rfl (c_X11_isSum (fun _ => aK_i ?_) (fun q => absurd c1 q))
                refine wp_if_eq (pc := 14) (tgt := 40) dX11_proves_14 rfl (fun q => absurd q (by decide)) (fun _ => ?_)
                refine wp_iload_n (pc := 17) dX11_proves_17 (by first | rfl | assumption | (repeat first | assumption | rfl | refine aG_n ?_ rfl rfl)) ?_
                refine wp_cS (pc := 18) dX11_proves_18 lk_11_355 rfl rfl rfl (c_X11_isSum (fun _ => aK_i ?_) (fun q => absurd c2 q))
                refine wp_if_eq (pc := 21) (tgt := 40) dX11_proves_21 rfl (fun q => absurd q (by decide)) (fun _ => ?_)
                refine wp_iload (pc := 24) dX11_proves_24 (by first | rfl | assumption | (repeat first | assumption | rfl | refine aG_n ?_ rfl rfl)) ?_
                refine wp_cS (pc := 26) dX11_proves_26 lk_11_355 rfl rfl rfl (c_X11_isSum (fun _ => aK_i ?_) (fun q => absurd c3 q))
                refine wp_if_eq (pc := 29) (tgt := 40) dX11_proves_29 rfl (fun q => absurd q (by decide)) (fun _ => ?_)
                refine wp_iload (pc := 32) dX11_proves_32 (by first | rfl | assumption | (repeat first | assumption | rfl | refine aG_n ?_ rfl rfl)) ?_
                refine wp_cS (pc := 34) dX11_proves_34 lk_11_355 rfl rfl rfl (c_X11_isSum (fun _ => aK_i ?_) (fun q => absurd c4 q))
                refine wp_if_ne (pc := 37) (tgt := 42) dX11_proves_37 rfl (fun _ => ?_) (fun q => absurd q (by decide))
                refine wp_iload_n (pc := 42) dX11_proves_42 (by first | rfl | assumption | (repeat first | assumption | rfl | refine aG_n ?_ rfl rfl)) ?_
                refine wp_iload_n (pc := 43) dX11_proves_43 (by first | rfl | assumption | (repeat first | assumption | rfl | refine aG_n ?_ rfl rfl)) ?_
                refine wp_iload_n (pc := 44) dX11_proves_44 (by first | rfl | assumption | (repeat first | assumption | rfl | refine aG_n ?_ rfl rfl)) ?_
                refine wp_cS (pc := 45) dX11_proves_45 lk_11_358 rfl rfl rfl ?_
                refine wp_iload_n (pc := 0) dX5_climb_0 (by first | rfl | assumption | (repeat first | assumption | rfl | refine aG_n ?_ rfl rfl)) ?_
                refine wp_iconst (pc := 1) (v := 1) dX5_climb_1 (by decide) ?_
                refine wp_iand (pc := 2) dX5_climb_2 ?_
                refine wp_if_ne (pc := 3) (tgt := 14) dX5_climb_3 rfl (fun _ => ?_) (fun q => absurd q (by decide))
                refine wp_iload_n (pc := 14) dX5_climb_14 (by first | rfl | assumption | (repeat first | assumption | rfl | refine aG_n ?_ rfl rfl)) ?_
                refine wp_iload_n (pc := 15) dX5_climb_15 (by first | rfl | assumption | (repeat first | assumption | rfl | refine aG_n ?_ rfl rfl)) ?_
                refine wp_cS (pc := 16) dX5_climb_16 lk_5_13 rfl rfl rfl (c_X5_sum (aK_i ?_))
                refine wp_iretK (pc := 19) dX5_climb_19 rfl (by first | rfl | decide | assumption) ?_
                refine wp_istore (pc := 48) dX11_proves_48 (by decide) ?_
                refine wp_iload_n (pc := 50) dX11_proves_50 (by first | rfl | assumption | (repeat first | assumption | rfl | refine aG_n ?_ rfl rfl)) ?_
                refine wp_iconst (pc := 51) (v := 1) dX11_proves_51 (by decide) ?_
                refine wp_ishr (pc := 52) dX11_proves_52 ?_
                refine wp_iload (pc := 53) dX11_proves_53 (by first | rfl | assumption | (repeat first | assumption | rfl | refine aG_n ?_ rfl rfl)) ?_
                refine wp_iload (pc := 55) dX11_proves_55 (by first | rfl | assumption | (repeat first | assumption | rfl | refine aG_n ?_ rfl rfl)) ?_
                refine wp_cS (pc := 57) dX11_proves_57 lk_11_358 rfl rfl rfl ?_
                refine wp_iload_n (pc := 0) dX5_climb_0 (by first | rfl | assumption | (repeat first | assumption | rfl | refine aG_n ?_ rfl rfl)) ?_
                refine wp_iconst (pc := 1) (v := 1) dX5_climb_1 (by decide) ?_
                refine wp_iand (pc := 2) dX5_climb_2 ?_
                refine wp_if_ne (pc := 3) (tgt := 14) dX5_climb_3 rfl (fun q => absurd q (by decide)) (fun _ => ?_)
                refine wp_iload_n (pc := 6) dX5_climb_6 (by first | rfl | assumption | (repeat first | assumption | rfl | refine aG_n ?_ rfl rfl)) ?_
                refine wp_iload_n (pc := 7) dX5_climb_7 (by first | rfl | assumption | (repeat first | assumption | rfl | refine aG_n ?_ rfl rfl)) ?_
                refine wp_cS (pc := 8) dX5_climb_8 lk_5_13 rfl rfl rfl (c_X5_sum (aK_i ?_))
                refine wp_goto (pc := 11) (tgt := 19) dX5_climb_11 rfl ?_
                refine wp_iretK (pc := 19) dX5_climb_19 rfl (by first | rfl | decide | assumption) ?_
                refine wp_istore (pc := 60) dX11_proves_60 (by decide) ?_
                refine wp_iload_n (pc := 62) dX11_proves_62 (by first | rfl | assumption | (repeat first | assumption | rfl | refine aG_n ?_ rfl rfl)) ?_
                refine wp_iconst (pc := 63) (v := 2) dX11_proves_63 (by decide) ?_
                refine wp_ishr (pc := 64) dX11_proves_64 ?_
                refine wp_iload (pc := 65) dX11_proves_65 (by first | rfl | assumption | (repeat first | assumption | rfl | refine aG_n ?_ rfl rfl)) ?_
                refine wp_iload (pc := 67) dX11_proves_67 (by first | rfl | assumption | (repeat first | assumption | rfl | refine aG_n ?_ rfl rfl)) ?_
                refine wp_cS (pc := 69) dX11_proves_69 lk_11_358 rfl rfl rfl ?_
                refine wp_iload_n (pc := 0) dX5_climb_0 (by first | rfl | assumption | (repeat first | assumption | rfl | refine aG_n ?_ rfl rfl)) ?_
                refine wp_iconst (pc := 1) (v := 1) dX5_climb_1 (by decide) ?_
                refine wp_iand (pc := 2) dX5_climb_2 ?_
                refine wp_if_ne (pc := 3) (tgt := 14) dX5_climb_3 rfl (fun q => absurd q (by decide)) (fun _ => ?_)
                refine wp_iload_n (pc := 6) dX5_climb_6 (by first | rfl | assumption | (repeat first | assumption | rfl | refine aG_n ?_ rfl rfl)) ?_
                refine wp_iload_n (pc := 7) dX5_climb_7 (by first | rfl | assumption | (repeat first | assumption | rfl | refine aG_n ?_ rfl rfl)) ?_
                refine wp_cS (pc := 8) dX5_climb_8 lk_5_13 rfl rfl rfl (c_X5_sum (aK_i ?_))
                refine wp_goto (pc := 11) (tgt := 19) dX5_climb_11 rfl ?_
                refine wp_iretK (pc := 19) dX5_climb_19 rfl (by first | rfl | decide | assumption) ?_
                refine wp_istore (pc := 72) dX11_proves_72 (by decide) ?_
                refine wp_iload (pc := 74) dX11_proves_74 (by first | rfl | assumption | (repeat first | assumption | rfl | refine aG_n ?_ rfl rfl)) ?_
                refine wp_aload_n (pc := 76) dX11_proves_76 (by first | rfl | assumption | (repeat first | assumption | rfl | refine aG_n ?_ rfl rfl)) ?_
                refine wp_getR (pc := 77) dX11_proves_77 fl_11_60 (by first | rfl | assumption | exact sh_house (by omega) | exact sh_wish (by omega) | exact sh_wor (by omega) | exact sh_bar (by omega) | exact sh_term (by omega) | exact sh_sheet (by omega) | exact sh_items (by omega) | exact sh_sums (by omega)) rfl ?_
                refine wp_getR (pc := 80) dX11_proves_80 fl_11_349 (by first | rfl | assumption | exact sh_house (by omega) | exact sh_wish (by omega) | exact sh_wor (by omega) | exact sh_bar (by omega) | exact sh_term (by omega) | exact sh_sheet (by omega) | exact sh_items (by omega) | exact sh_sums (by omega)) rfl ?_
                refine wp_iconst (pc := 83) (v := 1) dX11_proves_83 (by decide) ?_
                refine wp_ialdC (pc := 84) (j := 1) dX11_proves_84 (by first | rfl | assumption | exact sh_house (by omega) | exact sh_wish (by omega) | exact sh_wor (by omega) | exact sh_bar (by omega) | exact sh_term (by omega) | exact sh_sheet (by omega) | exact sh_items (by omega) | exact sh_sums (by omega)) (by decide) (by decide) ?_
                refine wp_icmp_ne (pc := 85) (tgt := 92) dX11_proves_85 rfl (fun q => absurd c5 q) (fun _ => ?_)
                refine wp_iconst (pc := 88) (v := 1) dX11_proves_88 (by decide) ?_
                refine wp_goto (pc := 89) (tgt := 93) dX11_proves_89 rfl ?_
                refine wp_cS (pc := 93) dX11_proves_93 lk_11_148 rfl rfl rfl ?_
                refine wp_iload_n (pc := 0) dX11_oneIf_0 (by first | rfl | assumption | (repeat first | assumption | rfl | refine aG_n ?_ rfl rfl)) ?_
                refine wp_if_eq (pc := 1) (tgt := 8) dX11_oneIf_1 rfl (fun q => absurd q (by decide)) (fun _ => ?_)
                refine wp_iconst (pc := 4) (v := 1) dX11_oneIf_4 (by decide) ?_
                refine wp_goto (pc := 5) (tgt := 9) dX11_oneIf_5 rfl ?_
                refine wp_iretK (pc := 9) dX11_oneIf_9 rfl (by first | rfl | decide | assumption) ?_
                refine wp_ireturn (pc := 96) dX11_proves_96 rfl (by first | rfl | decide | assumption) ?_
                refine k _ _ (fun Q' k' => ?_)
                refine wp_iload_n (pc := 0) dX12_proves_0 (by first | rfl | assumption | (repeat first | assumption | rfl | refine aG_n ?_ rfl rfl)) ?_
                refine wp_i2l (pc := 1) dX12_proves_1 ?_
                refine wp_lconst (pc := 2) (v := 0) dX12_proves_2 (by decide) ?_
                refine wp_ldc2 (pc := 3) dX12_proves_3 cl_12_347 ?_
                refine wp_cS (pc := 6) dX12_proves_6 lk_12_133 rfl rfl rfl (c_X12_in (fun _ => aK_i ?_) (fun q => absurd (by rw [w_int]; exact c0) q))
                refine wp_if_eq (pc := 9) (tgt := 42) dX12_proves_9 rfl (fun q => absurd q (by decide)) (fun _ => ?_)
                refine wp_iload_n (pc := 12) dX12_proves_12 (by first | rfl | assumption | (repeat first | assumption | rfl | refine aG_n ?_ rfl rfl)) ?_
                refine wp_cS (pc := 13) dX12_proves_13 lk_12_354 rfl rfl rfl (c_X12_isSum (fun _ => aK_i ?_) (fun q => absurd c1 q))
                refine wp_if_eq (pc := 16) (tgt := 42) dX12_proves_16 rfl (fun q => absurd q (by decide)) (fun _ => ?_)
                refine wp_iload_n (pc := 19) dX12_proves_19 (by first | rfl | assumption | (repeat first | assumption | rfl | refine aG_n ?_ rfl rfl)) ?_
                refine wp_cS (pc := 20) dX12_proves_20 lk_12_354 rfl rfl rfl (c_X12_isSum (fun _ => aK_i ?_) (fun q => absurd c2 q))
                refine wp_if_eq (pc := 23) (tgt := 42) dX12_proves_23 rfl (fun q => absurd q (by decide)) (fun _ => ?_)
                refine wp_iload (pc := 26) dX12_proves_26 (by first | rfl | assumption | (repeat first | assumption | rfl | refine aG_n ?_ rfl rfl)) ?_
                refine wp_cS (pc := 28) dX12_proves_28 lk_12_354 rfl rfl rfl (c_X12_isSum (fun _ => aK_i ?_) (fun q => absurd c3 q))
                refine wp_if_eq (pc := 31) (tgt := 42) dX12_proves_31 rfl (fun q => absurd q (by decide)) (fun _ => ?_)
                refine wp_iload (pc := 34) dX12_proves_34 (by first | rfl | assumption | (repeat first | assumption | rfl | refine aG_n ?_ rfl rfl)) ?_
                refine wp_cS (pc := 36) dX12_proves_36 lk_12_354 rfl rfl rfl (c_X12_isSum (fun _ => aK_i ?_) (fun q => absurd c4 q))
                refine wp_if_ne (pc := 39) (tgt := 44) dX12_proves_39 rfl (fun _ => ?_) (fun q => absurd q (by decide))
                refine wp_iload_n (pc := 44) dX12_proves_44 (by first | rfl | assumption | (repeat first | assumption | rfl | refine aG_n ?_ rfl rfl)) ?_
                refine wp_iload_n (pc := 45) dX12_proves_45 (by first | rfl | assumption | (repeat first | assumption | rfl | refine aG_n ?_ rfl rfl)) ?_
                refine wp_iload_n (pc := 46) dX12_proves_46 (by first | rfl | assumption | (repeat first | assumption | rfl | refine aG_n ?_ rfl rfl)) ?_
                refine wp_cS (pc := 47) dX12_proves_47 lk_12_357 rfl rfl rfl ?_
                refine wp_iload_n (pc := 0) dX12_sumBeside_0 (by first | rfl | assumption | (repeat first | assumption | rfl | refine aG_n ?_ rfl rfl)) ?_
                refine wp_iconst (pc := 1) (v := 2) dX12_sumBeside_1 (by decide) ?_
                refine wp_irem (pc := 2) dX12_sumBeside_2 (by decide) ?_
                refine wp_if_ne (pc := 3) (tgt := 14) dX12_sumBeside_3 rfl (fun _ => ?_) (fun q => absurd q (by decide))
                refine wp_iload_n (pc := 14) dX12_sumBeside_14 (by first | rfl | assumption | (repeat first | assumption | rfl | refine aG_n ?_ rfl rfl)) ?_
                refine wp_iload_n (pc := 15) dX12_sumBeside_15 (by first | rfl | assumption | (repeat first | assumption | rfl | refine aG_n ?_ rfl rfl)) ?_
                refine wp_cS (pc := 16) dX12_sumBeside_16 lk_12_344 rfl rfl rfl (c_X12_sumOf (aK_i ?_))
                refine wp_iretK (pc := 19) dX12_sumBeside_19 rfl (by first | rfl | decide | assumption) ?_
                refine wp_istore (pc := 50) dX12_proves_50 (by decide) ?_
                refine wp_iload_n (pc := 52) dX12_proves_52 (by first | rfl | assumption | (repeat first | assumption | rfl | refine aG_n ?_ rfl rfl)) ?_
                refine wp_iconst (pc := 53) (v := 2) dX12_proves_53 (by decide) ?_
                refine wp_idiv (pc := 54) dX12_proves_54 (by decide) ?_
                refine wp_iload (pc := 55) dX12_proves_55 (by first | rfl | assumption | (repeat first | assumption | rfl | refine aG_n ?_ rfl rfl)) ?_
                refine wp_iload (pc := 57) dX12_proves_57 (by first | rfl | assumption | (repeat first | assumption | rfl | refine aG_n ?_ rfl rfl)) ?_
                refine wp_cS (pc := 59) dX12_proves_59 lk_12_357 rfl rfl rfl ?_
                refine wp_iload_n (pc := 0) dX12_sumBeside_0 (by first | rfl | assumption | (repeat first | assumption | rfl | refine aG_n ?_ rfl rfl)) ?_
                refine wp_iconst (pc := 1) (v := 2) dX12_sumBeside_1 (by decide) ?_
                refine wp_irem (pc := 2) dX12_sumBeside_2 (by decide) ?_
                refine wp_if_ne (pc := 3) (tgt := 14) dX12_sumBeside_3 rfl (fun q => absurd q (by decide)) (fun _ => ?_)
                refine wp_iload_n (pc := 6) dX12_sumBeside_6 (by first | rfl | assumption | (repeat first | assumption | rfl | refine aG_n ?_ rfl rfl)) ?_
                refine wp_iload_n (pc := 7) dX12_sumBeside_7 (by first | rfl | assumption | (repeat first | assumption | rfl | refine aG_n ?_ rfl rfl)) ?_
                refine wp_cS (pc := 8) dX12_sumBeside_8 lk_12_344 rfl rfl rfl (c_X12_sumOf (aK_i ?_))
                refine wp_goto (pc := 11) (tgt := 19) dX12_sumBeside_11 rfl ?_
                refine wp_iretK (pc := 19) dX12_sumBeside_19 rfl (by first | rfl | decide | assumption) ?_
                refine wp_istore (pc := 62) dX12_proves_62 (by decide) ?_
                refine wp_iload_n (pc := 64) dX12_proves_64 (by first | rfl | assumption | (repeat first | assumption | rfl | refine aG_n ?_ rfl rfl)) ?_
                refine wp_iconst (pc := 65) (v := 4) dX12_proves_65 (by decide) ?_
                refine wp_idiv (pc := 66) dX12_proves_66 (by decide) ?_
                refine wp_iload (pc := 67) dX12_proves_67 (by first | rfl | assumption | (repeat first | assumption | rfl | refine aG_n ?_ rfl rfl)) ?_
                refine wp_iload (pc := 69) dX12_proves_69 (by first | rfl | assumption | (repeat first | assumption | rfl | refine aG_n ?_ rfl rfl)) ?_
                refine wp_cS (pc := 71) dX12_proves_71 lk_12_357 rfl rfl rfl ?_
                refine wp_iload_n (pc := 0) dX12_sumBeside_0 (by first | rfl | assumption | (repeat first | assumption | rfl | refine aG_n ?_ rfl rfl)) ?_
                refine wp_iconst (pc := 1) (v := 2) dX12_sumBeside_1 (by decide) ?_
                refine wp_irem (pc := 2) dX12_sumBeside_2 (by decide) ?_
                refine wp_if_ne (pc := 3) (tgt := 14) dX12_sumBeside_3 rfl (fun q => absurd q (by decide)) (fun _ => ?_)
                refine wp_iload_n (pc := 6) dX12_sumBeside_6 (by first | rfl | assumption | (repeat first | assumption | rfl | refine aG_n ?_ rfl rfl)) ?_
                refine wp_iload_n (pc := 7) dX12_sumBeside_7 (by first | rfl | assumption | (repeat first | assumption | rfl | refine aG_n ?_ rfl rfl)) ?_
                refine wp_cS (pc := 8) dX12_sumBeside_8 lk_12_344 rfl rfl rfl (c_X12_sumOf (aK_i ?_))
                refine wp_goto (pc := 11) (tgt := 19) dX12_sumBeside_11 rfl ?_
                refine wp_iretK (pc := 19) dX12_sumBeside_19 rfl (by first | rfl | decide | assumption) ?_
                refine wp_aload_n (pc := 74) dX12_proves_74 (by first | rfl | assumption | (repeat first | assumption | rfl | refine aG_n ?_ rfl rfl)) ?_
                refine wp_iconst (pc := 75) (v := 0) dX12_proves_75 (by decide) ?_
                refine wp_bipush (pc := 76) (v := 8) dX12_proves_76 (by decide) ?_
                refine wp_cV (pc := 78) dX12_proves_78 lk_12_349 rfl (by decide) rfl (by first | rfl | assumption | exact sh_house (by omega) | exact sh_wish (by omega) | exact sh_wor (by omega) | exact sh_bar (by omega) | exact sh_term (by omega) | exact sh_sheet (by omega) | exact sh_items (by omega) | exact sh_sums (by omega)) rfl rfl ?_
                refine wp_aload_n (pc := 0) dX12_sumFrom_0 (by first | rfl | assumption | (repeat first | assumption | rfl | refine aG_n ?_ rfl rfl)) ?_
                refine wp_getR (pc := 1) dX12_sumFrom_1 fl_12_119 (by first | rfl | assumption | exact sh_house (by omega) | exact sh_wish (by omega) | exact sh_wor (by omega) | exact sh_bar (by omega) | exact sh_term (by omega) | exact sh_sheet (by omega) | exact sh_items (by omega) | exact sh_sums (by omega)) rfl ?_
                refine wp_iload_n (pc := 4) dX12_sumFrom_4 (by first | rfl | assumption | (repeat first | assumption | rfl | refine aG_n ?_ rfl rfl)) ?_
                refine wp_ialdC (pc := 5) (j := 0) dX12_sumFrom_5 (by first | rfl | assumption | exact sh_house (by omega) | exact sh_wish (by omega) | exact sh_wor (by omega) | exact sh_bar (by omega) | exact sh_term (by omega) | exact sh_sheet (by omega) | exact sh_items (by omega) | exact sh_sums (by omega)) (by decide) (by decide) ?_
                refine wp_aload_n (pc := 6) dX12_sumFrom_6 (by first | rfl | assumption | (repeat first | assumption | rfl | refine aG_n ?_ rfl rfl)) ?_
                refine wp_getR (pc := 7) dX12_sumFrom_7 fl_12_119 (by first | rfl | assumption | exact sh_house (by omega) | exact sh_wish (by omega) | exact sh_wor (by omega) | exact sh_bar (by omega) | exact sh_term (by omega) | exact sh_sheet (by omega) | exact sh_items (by omega) | exact sh_sums (by omega)) rfl ?_
                refine wp_iload_n (pc := 10) dX12_sumFrom_10 (by first | rfl | assumption | (repeat first | assumption | rfl | refine aG_n ?_ rfl rfl)) ?_
                refine wp_iconst (pc := 11) (v := 1) dX12_sumFrom_11 (by decide) ?_
                refine wp_iadd (pc := 12) dX12_sumFrom_12 ?_
                refine wp_bipush (pc := 13) (v := 8) dX12_sumFrom_13 (by decide) ?_
                refine wp_irem (pc := 15) dX12_sumFrom_15 (by decide) ?_
                refine wp_ialdC (pc := 16) (j := 1) dX12_sumFrom_16 (by first | rfl | assumption | exact sh_house (by omega) | exact sh_wish (by omega) | exact sh_wor (by omega) | exact sh_bar (by omega) | exact sh_term (by omega) | exact sh_sheet (by omega) | exact sh_items (by omega) | exact sh_sums (by omega)) (by decide) (by decide) ?_
                refine wp_cS (pc := 17) dX12_sumFrom_17 lk_12_344 rfl rfl rfl (c_X12_sumOf (aK_i ?_))
                refine wp_istore_n (pc := 20) dX12_sumFrom_20 (by decide) ?_
                refine wp_iload_n (pc := 21) dX12_sumFrom_21 (by first | rfl | assumption | (repeat first | assumption | rfl | refine aG_n ?_ rfl rfl)) ?_
                refine wp_iconst (pc := 22) (v := 4) dX12_sumFrom_22 (by decide) ?_
                refine wp_icmp_ge (pc := 23) (tgt := 42) dX12_sumFrom_23 rfl (fun _ => ?_) (fun q => absurd q (by decide))
                refine wp_iload_n (pc := 42) dX12_sumFrom_42 (by first | rfl | assumption | (repeat first | assumption | rfl | refine aG_n ?_ rfl rfl)) ?_
                refine wp_aload_n (pc := 43) dX12_sumFrom_43 (by first | rfl | assumption | (repeat first | assumption | rfl | refine aG_n ?_ rfl rfl)) ?_
                refine wp_getR (pc := 44) dX12_sumFrom_44 fl_12_119 (by first | rfl | assumption | exact sh_house (by omega) | exact sh_wish (by omega) | exact sh_wor (by omega) | exact sh_bar (by omega) | exact sh_term (by omega) | exact sh_sheet (by omega) | exact sh_items (by omega) | exact sh_sums (by omega)) rfl ?_
                refine wp_iload_n (pc := 47) dX12_sumFrom_47 (by first | rfl | assumption | (repeat first | assumption | rfl | refine aG_n ?_ rfl rfl)) ?_
                refine wp_iconst (pc := 48) (v := 2) dX12_sumFrom_48 (by decide) ?_
                refine wp_iadd (pc := 49) dX12_sumFrom_49 ?_
                refine wp_ialdC (pc := 50) (j := 2) dX12_sumFrom_50 (by first | rfl | assumption | exact sh_house (by omega) | exact sh_wish (by omega) | exact sh_wor (by omega) | exact sh_bar (by omega) | exact sh_term (by omega) | exact sh_sheet (by omega) | exact sh_items (by omega) | exact sh_sums (by omega)) (by decide) (by decide) ?_
                refine wp_aload_n (pc := 51) dX12_sumFrom_51 (by first | rfl | assumption | (repeat first | assumption | rfl | refine aG_n ?_ rfl rfl)) ?_
                refine wp_getR (pc := 52) dX12_sumFrom_52 fl_12_119 (by first | rfl | assumption | exact sh_house (by omega) | exact sh_wish (by omega) | exact sh_wor (by omega) | exact sh_bar (by omega) | exact sh_term (by omega) | exact sh_sheet (by omega) | exact sh_items (by omega) | exact sh_sums (by omega)) rfl ?_
                refine wp_iload_n (pc := 55) dX12_sumFrom_55 (by first | rfl | assumption | (repeat first | assumption | rfl | refine aG_n ?_ rfl rfl)) ?_
                refine wp_iconst (pc := 56) (v := 3) dX12_sumFrom_56 (by decide) ?_
                refine wp_iadd (pc := 57) dX12_sumFrom_57 ?_
                refine wp_ialdC (pc := 58) (j := 3) dX12_sumFrom_58 (by first | rfl | assumption | exact sh_house (by omega) | exact sh_wish (by omega) | exact sh_wor (by omega) | exact sh_bar (by omega) | exact sh_term (by omega) | exact sh_sheet (by omega) | exact sh_items (by omega) | exact sh_sums (by omega)) (by decide) (by decide) ?_
                refine wp_cS (pc := 59) dX12_sumFrom_59 lk_12_344 rfl rfl rfl (c_X12_sumOf (aK_i ?_))
                refine wp_cS (pc := 62) dX12_sumFrom_62 lk_12_344 rfl rfl rfl (c_X12_sumOf (aK_i ?_))
                refine wp_istore (pc := 65) dX12_sumFrom_65 (by decide) ?_
                refine wp_iload_n (pc := 67) dX12_sumFrom_67 (by first | rfl | assumption | (repeat first | assumption | rfl | refine aG_n ?_ rfl rfl)) ?_
                refine wp_iconst (pc := 68) (v := 4) dX12_sumFrom_68 (by decide) ?_
                refine wp_icmp_ne (pc := 69) (tgt := 75) dX12_sumFrom_69 rfl (fun _ => ?_) (fun q => absurd q (by decide))
                refine wp_iload (pc := 75) dX12_sumFrom_75 (by first | rfl | assumption | (repeat first | assumption | rfl | refine aG_n ?_ rfl rfl)) ?_
                refine wp_aload_n (pc := 77) dX12_sumFrom_77 (by first | rfl | assumption | (repeat first | assumption | rfl | refine aG_n ?_ rfl rfl)) ?_
                refine wp_getR (pc := 78) dX12_sumFrom_78 fl_12_119 (by first | rfl | assumption | exact sh_house (by omega) | exact sh_wish (by omega) | exact sh_wor (by omega) | exact sh_bar (by omega) | exact sh_term (by omega) | exact sh_sheet (by omega) | exact sh_items (by omega) | exact sh_sums (by omega)) rfl ?_
                refine wp_iconst (pc := 81) (v := 4) dX12_sumFrom_81 (by decide) ?_
                refine wp_ialdC (pc := 82) (j := 4) dX12_sumFrom_82 (by first | rfl | assumption | exact sh_house (by omega) | exact sh_wish (by omega) | exact sh_wor (by omega) | exact sh_bar (by omega) | exact sh_term (by omega) | exact sh_sheet (by omega) | exact sh_items (by omega) | exact sh_sums (by omega)) (by decide) (by decide) ?_
                refine wp_aload_n (pc := 83) dX12_sumFrom_83 (by first | rfl | assumption | (repeat first | assumption | rfl | refine aG_n ?_ rfl rfl)) ?_
                refine wp_getR (pc := 84) dX12_sumFrom_84 fl_12_119 (by first | rfl | assumption | exact sh_house (by omega) | exact sh_wish (by omega) | exact sh_wor (by omega) | exact sh_bar (by omega) | exact sh_term (by omega) | exact sh_sheet (by omega) | exact sh_items (by omega) | exact sh_sums (by omega)) rfl ?_
                refine wp_iconst (pc := 87) (v := 5) dX12_sumFrom_87 (by decide) ?_
                refine wp_ialdC (pc := 88) (j := 5) dX12_sumFrom_88 (by first | rfl | assumption | exact sh_house (by omega) | exact sh_wish (by omega) | exact sh_wor (by omega) | exact sh_bar (by omega) | exact sh_term (by omega) | exact sh_sheet (by omega) | exact sh_items (by omega) | exact sh_sums (by omega)) (by decide) (by decide) ?_
                refine wp_cS (pc := 89) dX12_sumFrom_89 lk_12_344 rfl rfl rfl (c_X12_sumOf (aK_i ?_))
                refine wp_aload_n (pc := 92) dX12_sumFrom_92 (by first | rfl | assumption | (repeat first | assumption | rfl | refine aG_n ?_ rfl rfl)) ?_
                refine wp_getR (pc := 93) dX12_sumFrom_93 fl_12_119 (by first | rfl | assumption | exact sh_house (by omega) | exact sh_wish (by omega) | exact sh_wor (by omega) | exact sh_bar (by omega) | exact sh_term (by omega) | exact sh_sheet (by omega) | exact sh_items (by omega) | exact sh_sums (by omega)) rfl ?_
                refine wp_bipush (pc := 96) (v := 6) dX12_sumFrom_96 (by decide) ?_
                refine wp_ialdC (pc := 98) (j := 6) dX12_sumFrom_98 (by first | rfl | assumption | exact sh_house (by omega) | exact sh_wish (by omega) | exact sh_wor (by omega) | exact sh_bar (by omega) | exact sh_term (by omega) | exact sh_sheet (by omega) | exact sh_items (by omega) | exact sh_sums (by omega)) (by decide) (by decide) ?_
                refine wp_aload_n (pc := 99) dX12_sumFrom_99 (by first | rfl | assumption | (repeat first | assumption | rfl | refine aG_n ?_ rfl rfl)) ?_
                refine wp_getR (pc := 100) dX12_sumFrom_100 fl_12_119 (by first | rfl | assumption | exact sh_house (by omega) | exact sh_wish (by omega) | exact sh_wor (by omega) | exact sh_bar (by omega) | exact sh_term (by omega) | exact sh_sheet (by omega) | exact sh_items (by omega) | exact sh_sums (by omega)) rfl ?_
                refine wp_bipush (pc := 103) (v := 7) dX12_sumFrom_103 (by decide) ?_
                refine wp_ialdC (pc := 105) (j := 7) dX12_sumFrom_105 (by first | rfl | assumption | exact sh_house (by omega) | exact sh_wish (by omega) | exact sh_wor (by omega) | exact sh_bar (by omega) | exact sh_term (by omega) | exact sh_sheet (by omega) | exact sh_items (by omega) | exact sh_sums (by omega)) (by decide) (by decide) ?_
                refine wp_cS (pc := 106) dX12_sumFrom_106 lk_12_344 rfl rfl rfl (c_X12_sumOf (aK_i ?_))
                refine wp_cS (pc := 109) dX12_sumFrom_109 lk_12_344 rfl rfl rfl (c_X12_sumOf (aK_i ?_))
                refine wp_cS (pc := 112) dX12_sumFrom_112 lk_12_344 rfl rfl rfl (c_X12_sumOf (aK_i ?_))
                refine wp_iretK (pc := 115) dX12_sumFrom_115 rfl (by first | rfl | decide | assumption) ?_
                refine wp_icmp_ne (pc := 81) (tgt := 88) dX12_proves_81 rfl (fun q => absurd (by rw [root_eq hR]; exact c5) q) (fun _ => ?_)
                refine wp_iconst (pc := 84) (v := 1) dX12_proves_84 (by decide) ?_
                refine wp_goto (pc := 85) (tgt := 89) dX12_proves_85 rfl ?_
                refine wp_ireturn (pc := 89) dX12_proves_89 rfl (by first | rfl | decide | assumption) ?_
                exact k' _ hI
              · skip
                refine wp_iload_n (pc := 0) dX11_proves_0 (by first | rfl | assumption | (repeat first | assumption | rfl | refine aG_n ?_ rfl rfl)) ?_
                refine wp_iconst (pc := 1) (v := 0) dX11_proves_1 (by decide) ?_
                refine wp_bipush (pc := 2) (v := 7) dX11_proves_2 (by decide) ?_
                refine wp_cS (pc := 4) dX11_proves_4 lk_11_112 rfl rfl rfl (c_X11_isWithin (fun _ => aK_i ?_) (fun q => absurd c0 q))
                refine wp_if_eq (pc := 7) (tgt := 40) dX11_proves_7 rfl (fun q => absurd q (by decide)) (fun _ => ?_)
                refine wp_iload_n (pc := 10) dX11_proves_10 (by first | rfl | assumption | (repeat first | assumption | rfl | refine aG_n ?_ rfl rfl)) ?_
                refine wp_cS (pc := 11) dX11_proves_11 lk_11_355 rfl rfl rfl (c_X11_isSum (fun _ => aK_i ?_) (fun q => absurd c1 q))
                refine wp_if_eq (pc := 14) (tgt := 40) dX11_proves_14 rfl (fun q => absurd q (by decide)) (fun _ => ?_)
                refine wp_iload_n (pc := 17) dX11_proves_17 (by first | rfl | assumption | (repeat first | assumption | rfl | refine aG_n ?_ rfl rfl)) ?_
                refine wp_cS (pc := 18) dX11_proves_18 lk_11_355 rfl rfl rfl (c_X11_isSum (fun _ => aK_i ?_) (fun q => absurd c2 q))
                refine wp_if_eq (pc := 21) (tgt := 40) dX11_proves_21 rfl (fun q => absurd q (by decide)) (fun _ => ?_)
                refine wp_iload (pc := 24) dX11_proves_24 (by first | rfl | assumption | (repeat first | assumption | rfl | refine aG_n ?_ rfl rfl)) ?_
                refine wp_cS (pc := 26) dX11_proves_26 lk_11_355 rfl rfl rfl (c_X11_isSum (fun _ => aK_i ?_) (fun q => absurd c3 q))
                refine wp_if_eq (pc := 29) (tgt := 40) dX11_proves_29 rfl (fun q => absurd q (by decide)) (fun _ => ?_)
                refine wp_iload (pc := 32) dX11_proves_32 (by first | rfl | assumption | (repeat first | assumption | rfl | refine aG_n ?_ rfl rfl)) ?_
                refine wp_cS (pc := 34) dX11_proves_34 lk_11_355 rfl rfl rfl (c_X11_isSum (fun _ => aK_i ?_) (fun q => absurd c4 q))
                refine wp_if_ne (pc := 37) (tgt := 42) dX11_proves_37 rfl (fun _ => ?_) (fun q => absurd q (by decide))
                refine wp_iload_n (pc := 42) dX11_proves_42 (by first | rfl | assumption | (repeat first | assumption | rfl | refine aG_n ?_ rfl rfl)) ?_
                refine wp_iload_n (pc := 43) dX11_proves_43 (by first | rfl | assumption | (repeat first | assumption | rfl | refine aG_n ?_ rfl rfl)) ?_
                refine wp_iload_n (pc := 44) dX11_proves_44 (by first | rfl | assumption | (repeat first | assumption | rfl | refine aG_n ?_ rfl rfl)) ?_
                refine wp_cS (pc := 45) dX11_proves_45 lk_11_358 rfl rfl rfl ?_
                refine wp_iload_n (pc := 0) dX5_climb_0 (by first | rfl | assumption | (repeat first | assumption | rfl | refine aG_n ?_ rfl rfl)) ?_
                refine wp_iconst (pc := 1) (v := 1) dX5_climb_1 (by decide) ?_
                refine wp_iand (pc := 2) dX5_climb_2 ?_
                refine wp_if_ne (pc := 3) (tgt := 14) dX5_climb_3 rfl (fun _ => ?_) (fun q => absurd q (by decide))
                refine wp_iload_n (pc := 14) dX5_climb_14 (by first | rfl | assumption | (repeat first | assumption | rfl | refine aG_n ?_ rfl rfl)) ?_
                refine wp_iload_n (pc := 15) dX5_climb_15 (by first | rfl | assumption | (repeat first | assumption | rfl | refine aG_n ?_ rfl rfl)) ?_
                refine wp_cS (pc := 16) dX5_climb_16 lk_5_13 rfl rfl rfl (c_X5_sum (aK_i ?_))
                refine wp_iretK (pc := 19) dX5_climb_19 rfl (by first | rfl | decide | assumption) ?_
                refine wp_istore (pc := 48) dX11_proves_48 (by decide) ?_
                refine wp_iload_n (pc := 50) dX11_proves_50 (by first | rfl | assumption | (repeat first | assumption | rfl | refine aG_n ?_ rfl rfl)) ?_
                refine wp_iconst (pc := 51) (v := 1) dX11_proves_51 (by decide) ?_
                refine wp_ishr (pc := 52) dX11_proves_52 ?_
                refine wp_iload (pc := 53) dX11_proves_53 (by first | rfl | assumption | (repeat first | assumption | rfl | refine aG_n ?_ rfl rfl)) ?_
                refine wp_iload (pc := 55) dX11_proves_55 (by first | rfl | assumption | (repeat first | assumption | rfl | refine aG_n ?_ rfl rfl)) ?_
                refine wp_cS (pc := 57) dX11_proves_57 lk_11_358 rfl rfl rfl ?_
                refine wp_iload_n (pc := 0) dX5_climb_0 (by first | rfl | assumption | (repeat first | assumption | rfl | refine aG_n ?_ rfl rfl)) ?_
                refine wp_iconst (pc := 1) (v := 1) dX5_climb_1 (by decide) ?_
                refine wp_iand (pc := 2) dX5_climb_2 ?_
                refine wp_if_ne (pc := 3) (tgt := 14) dX5_climb_3 rfl (fun q => absurd q (by decide)) (fun _ => ?_)
                refine wp_iload_n (pc := 6) dX5_climb_6 (by first | rfl | assumption | (repeat first | assumption | rfl | refine aG_n ?_ rfl rfl)) ?_
                refine wp_iload_n (pc := 7) dX5_climb_7 (by first | rfl | assumption | (repeat first | assumption | rfl | refine aG_n ?_ rfl rfl)) ?_
                refine wp_cS (pc := 8) dX5_climb_8 lk_5_13 rfl rfl rfl (c_X5_sum (aK_i ?_))
                refine wp_goto (pc := 11) (tgt := 19) dX5_climb_11 rfl ?_
                refine wp_iretK (pc := 19) dX5_climb_19 rfl (by first | rfl | decide | assumption) ?_
                refine wp_istore (pc := 60) dX11_proves_60 (by decide) ?_
                refine wp_iload_n (pc := 62) dX11_proves_62 (by first | rfl | assumption | (repeat first | assumption | rfl | refine aG_n ?_ rfl rfl)) ?_
                refine wp_iconst (pc := 63) (v := 2) dX11_proves_63 (by decide) ?_
                refine wp_ishr (pc := 64) dX11_proves_64 ?_
                refine wp_iload (pc := 65) dX11_proves_65 (by first | rfl | assumption | (repeat first | assumption | rfl | refine aG_n ?_ rfl rfl)) ?_
                refine wp_iload (pc := 67) dX11_proves_67 (by first | rfl | assumption | (repeat first | assumption | rfl | refine aG_n ?_ rfl rfl)) ?_
                refine wp_cS (pc := 69) dX11_proves_69 lk_11_358 rfl rfl rfl ?_
                refine wp_iload_n (pc := 0) dX5_climb_0 (by first | rfl | assumption | (repeat first | assumption | rfl | refine aG_n ?_ rfl rfl)) ?_
                refine wp_iconst (pc := 1) (v := 1) dX5_climb_1 (by decide) ?_
                refine wp_iand (pc := 2) dX5_climb_2 ?_
                refine wp_if_ne (pc := 3) (tgt := 14) dX5_climb_3 rfl (fun q => absurd q (by decide)) (fun _ => ?_)
                refine wp_iload_n (pc := 6) dX5_climb_6 (by first | rfl | assumption | (repeat first | assumption | rfl | refine aG_n ?_ rfl rfl)) ?_
                refine wp_iload_n (pc := 7) dX5_climb_7 (by first | rfl | assumption | (repeat first | assumption | rfl | refine aG_n ?_ rfl rfl)) ?_
                refine wp_cS (pc := 8) dX5_climb_8 lk_5_13 rfl rfl rfl (c_X5_sum (aK_i ?_))
                refine wp_goto (pc := 11) (tgt := 19) dX5_climb_11 rfl ?_
                refine wp_iretK (pc := 19) dX5_climb_19 rfl (by first | rfl | decide | assumption) ?_
                refine wp_istore (pc := 72) dX11_proves_72 (by decide) ?_
                refine wp_iload (pc := 74) dX11_proves_74 (by first | rfl | assumption | (repeat first | assumption | rfl | refine aG_n ?_ rfl rfl)) ?_
                refine wp_aload_n (pc := 76) dX11_proves_76 (by first | rfl | assumption | (repeat first | assumption | rfl | refine aG_n ?_ rfl rfl)) ?_
                refine wp_getR (pc := 77) dX11_proves_77 fl_11_60 (by first | rfl | assumption | exact sh_house (by omega) | exact sh_wish (by omega) | exact sh_wor (by omega) | exact sh_bar (by omega) | exact sh_term (by omega) | exact sh_sheet (by omega) | exact sh_items (by omega) | exact sh_sums (by omega)) rfl ?_
                refine wp_getR (pc := 80) dX11_proves_80 fl_11_349 (by first | rfl | assumption | exact sh_house (by omega) | exact sh_wish (by omega) | exact sh_wor (by omega) | exact sh_bar (by omega) | exact sh_term (by omega) | exact sh_sheet (by omega) | exact sh_items (by omega) | exact sh_sums (by omega)) rfl ?_
                refine wp_iconst (pc := 83) (v := 1) dX11_proves_83 (by decide) ?_
                refine wp_ialdC (pc := 84) (j := 1) dX11_proves_84 (by first | rfl | assumption | exact sh_house (by omega) | exact sh_wish (by omega) | exact sh_wor (by omega) | exact sh_bar (by omega) | exact sh_term (by omega) | exact sh_sheet (by omega) | exact sh_items (by omega) | exact sh_sums (by omega)) (by decide) (by decide) ?_
                refine wp_icmp_ne (pc := 85) (tgt := 92) dX11_proves_85 rfl (fun _ => ?_) (fun q => absurd q c5)
                refine wp_iconst (pc := 92) (v := 0) dX11_proves_92 (by decide) ?_
                refine wp_cS (pc := 93) dX11_proves_93 lk_11_148 rfl rfl rfl ?_
                refine wp_iload_n (pc := 0) dX11_oneIf_0 (by first | rfl | assumption | (repeat first | assumption | rfl | refine aG_n ?_ rfl rfl)) ?_
                refine wp_if_eq (pc := 1) (tgt := 8) dX11_oneIf_1 rfl (fun _ => ?_) (fun q => absurd q (by decide))
                refine wp_iconst (pc := 8) (v := 0) dX11_oneIf_8 (by decide) ?_
                refine wp_iretK (pc := 9) dX11_oneIf_9 rfl (by first | rfl | decide | assumption) ?_
                refine wp_ireturn (pc := 96) dX11_proves_96 rfl (by first | rfl | decide | assumption) ?_
                refine k _ _ (fun Q' k' => ?_)
                refine wp_iload_n (pc := 0) dX12_proves_0 (by first | rfl | assumption | (repeat first | assumption | rfl | refine aG_n ?_ rfl rfl)) ?_
                refine wp_i2l (pc := 1) dX12_proves_1 ?_
                refine wp_lconst (pc := 2) (v := 0) dX12_proves_2 (by decide) ?_
                refine wp_ldc2 (pc := 3) dX12_proves_3 cl_12_347 ?_
                refine wp_cS (pc := 6) dX12_proves_6 lk_12_133 rfl rfl rfl (c_X12_in (fun _ => aK_i ?_) (fun q => absurd (by rw [w_int]; exact c0) q))
                refine wp_if_eq (pc := 9) (tgt := 42) dX12_proves_9 rfl (fun q => absurd q (by decide)) (fun _ => ?_)
                refine wp_iload_n (pc := 12) dX12_proves_12 (by first | rfl | assumption | (repeat first | assumption | rfl | refine aG_n ?_ rfl rfl)) ?_
                refine wp_cS (pc := 13) dX12_proves_13 lk_12_354 rfl rfl rfl (c_X12_isSum (fun _ => aK_i ?_) (fun q => absurd c1 q))
                refine wp_if_eq (pc := 16) (tgt := 42) dX12_proves_16 rfl (fun q => absurd q (by decide)) (fun _ => ?_)
                refine wp_iload_n (pc := 19) dX12_proves_19 (by first | rfl | assumption | (repeat first | assumption | rfl | refine aG_n ?_ rfl rfl)) ?_
                refine wp_cS (pc := 20) dX12_proves_20 lk_12_354 rfl rfl rfl (c_X12_isSum (fun _ => aK_i ?_) (fun q => absurd c2 q))
                refine wp_if_eq (pc := 23) (tgt := 42) dX12_proves_23 rfl (fun q => absurd q (by decide)) (fun _ => ?_)
                refine wp_iload (pc := 26) dX12_proves_26 (by first | rfl | assumption | (repeat first | assumption | rfl | refine aG_n ?_ rfl rfl)) ?_
                refine wp_cS (pc := 28) dX12_proves_28 lk_12_354 rfl rfl rfl (c_X12_isSum (fun _ => aK_i ?_) (fun q => absurd c3 q))
                refine wp_if_eq (pc := 31) (tgt := 42) dX12_proves_31 rfl (fun q => absurd q (by decide)) (fun _ => ?_)
                refine wp_iload (pc := 34) dX12_proves_34 (by first | rfl | assumption | (repeat first | assumption | rfl | refine aG_n ?_ rfl rfl)) ?_
                refine wp_cS (pc := 36) dX12_proves_36 lk_12_354 rfl rfl rfl (c_X12_isSum (fun _ => aK_i ?_) (fun q => absurd c4 q))
                refine wp_if_ne (pc := 39) (tgt := 44) dX12_proves_39 rfl (fun _ => ?_) (fun q => absurd q (by decide))
                refine wp_iload_n (pc := 44) dX12_proves_44 (by first | rfl | assumption | (repeat first | assumption | rfl | refine aG_n ?_ rfl rfl)) ?_
                refine wp_iload_n (pc := 45) dX12_proves_45 (by first | rfl | assumption | (repeat first | assumption | rfl | refine aG_n ?_ rfl rfl)) ?_
                refine wp_iload_n (pc := 46) dX12_proves_46 (by first | rfl | assumption | (repeat first | assumption | rfl | refine aG_n ?_ rfl rfl)) ?_
                refine wp_cS (pc := 47) dX12_proves_47 lk_12_357 rfl rfl rfl ?_
                refine wp_iload_n (pc := 0) dX12_sumBeside_0 (by first | rfl | assumption | (repeat first | assumption | rfl | refine aG_n ?_ rfl rfl)) ?_
                refine wp_iconst (pc := 1) (v := 2) dX12_sumBeside_1 (by decide) ?_
                refine wp_irem (pc := 2) dX12_sumBeside_2 (by decide) ?_
                refine wp_if_ne (pc := 3) (tgt := 14) dX12_sumBeside_3 rfl (fun _ => ?_) (fun q => absurd q (by decide))
                refine wp_iload_n (pc := 14) dX12_sumBeside_14 (by first | rfl | assumption | (repeat first | assumption | rfl | refine aG_n ?_ rfl rfl)) ?_
                refine wp_iload_n (pc := 15) dX12_sumBeside_15 (by first | rfl | assumption | (repeat first | assumption | rfl | refine aG_n ?_ rfl rfl)) ?_
                refine wp_cS (pc := 16) dX12_sumBeside_16 lk_12_344 rfl rfl rfl (c_X12_sumOf (aK_i ?_))
                refine wp_iretK (pc := 19) dX12_sumBeside_19 rfl (by first | rfl | decide | assumption) ?_
                refine wp_istore (pc := 50) dX12_proves_50 (by decide) ?_
                refine wp_iload_n (pc := 52) dX12_proves_52 (by first | rfl | assumption | (repeat first | assumption | rfl | refine aG_n ?_ rfl rfl)) ?_
                refine wp_iconst (pc := 53) (v := 2) dX12_proves_53 (by decide) ?_
                refine wp_idiv (pc := 54) dX12_proves_54 (by decide) ?_
                refine wp_iload (pc := 55) dX12_proves_55 (by first | rfl | assumption | (repeat first | assumption | rfl | refine aG_n ?_ rfl rfl)) ?_
                refine wp_iload (pc := 57) dX12_proves_57 (by first | rfl | assumption | (repeat first | assumption | rfl | refine aG_n ?_ rfl rfl)) ?_
                refine wp_cS (pc := 59) dX12_proves_59 lk_12_357 rfl rfl rfl ?_
                refine wp_iload_n (pc := 0) dX12_sumBeside_0 (by first | rfl | assumption | (repeat first | assumption | rfl | refine aG_n ?_ rfl rfl)) ?_
                refine wp_iconst (pc := 1) (v := 2) dX12_sumBeside_1 (by decide) ?_
                refine wp_irem (pc := 2) dX12_sumBeside_2 (by decide) ?_
                refine wp_if_ne (pc := 3) (tgt := 14) dX12_sumBeside_3 rfl (fun q => absurd q (by decide)) (fun _ => ?_)
                refine wp_iload_n (pc := 6) dX12_sumBeside_6 (by first | rfl | assumption | (repeat first | assumption | rfl | refine aG_n ?_ rfl rfl)) ?_
                refine wp_iload_n (pc := 7) dX12_sumBeside_7 (by first | rfl | assumption | (repeat first | assumption | rfl | refine aG_n ?_ rfl rfl)) ?_
                refine wp_cS (pc := 8) dX12_sumBeside_8 lk_12_344 rfl rfl rfl (c_X12_sumOf (aK_i ?_))
                refine wp_goto (pc := 11) (tgt := 19) dX12_sumBeside_11 rfl ?_
                refine wp_iretK (pc := 19) dX12_sumBeside_19 rfl (by first | rfl | decide | assumption) ?_
                refine wp_istore (pc := 62) dX12_proves_62 (by decide) ?_
                refine wp_iload_n (pc := 64) dX12_proves_64 (by first | rfl | assumption | (repeat first | assumption | rfl | refine aG_n ?_ rfl rfl)) ?_
                refine wp_iconst (pc := 65) (v := 4) dX12_proves_65 (by decide) ?_
                refine wp_idiv (pc := 66) dX12_proves_66 (by decide) ?_
                refine wp_iload (pc := 67) dX12_proves_67 (by first | rfl | assumption | (repeat first | assumption | rfl | refine aG_n ?_ rfl rfl)) ?_
                refine wp_iload (pc := 69) dX12_proves_69 (by first | rfl | assumption | (repeat first | assumption | rfl | refine aG_n ?_ rfl rfl)) ?_
                refine wp_cS (pc := 71) dX12_proves_71 lk_12_357 rfl rfl rfl ?_
                refine wp_iload_n (pc := 0) dX12_sumBeside_0 (by first | rfl | assumption | (repeat first | assumption | rfl | refine aG_n ?_ rfl rfl)) ?_
                refine wp_iconst (pc := 1) (v := 2) dX12_sumBeside_1 (by decide) ?_
                refine wp_irem (pc := 2) dX12_sumBeside_2 (by decide) ?_
                refine wp_if_ne (pc := 3) (tgt := 14) dX12_sumBeside_3 rfl (fun q => absurd q (by decide)) (fun _ => ?_)
                refine wp_iload_n (pc := 6) dX12_sumBeside_6 (by first | rfl | assumption | (repeat first | assumption | rfl | refine aG_n ?_ rfl rfl)) ?_
                refine wp_iload_n (pc := 7) dX12_sumBeside_7 (by first | rfl | assumption | (repeat first | assumption | rfl | refine aG_n ?_ rfl rfl)) ?_
                refine wp_cS (pc := 8) dX12_sumBeside_8 lk_12_344 rfl rfl rfl (c_X12_sumOf (aK_i ?_))
                refine wp_goto (pc := 11) (tgt := 19) dX12_sumBeside_11 rfl ?_
                refine wp_iretK (pc := 19) dX12_sumBeside_19 rfl (by first | rfl | decide | assumption) ?_
                refine wp_aload_n (pc := 74) dX12_proves_74 (by first | rfl | assumption | (repeat first | assumption | rfl | refine aG_n ?_ rfl rfl)) ?_
                refine wp_iconst (pc := 75) (v := 0) dX12_proves_75 (by decide) ?_
                refine wp_bipush (pc := 76) (v := 8) dX12_proves_76 (by decide) ?_
                refine wp_cV (pc := 78) dX12_proves_78 lk_12_349 rfl (by decide) rfl (by first | rfl | assumption | exact sh_house (by omega) | exact sh_wish (by omega) | exact sh_wor (by omega) | exact sh_bar (by omega) | exact sh_term (by omega) | exact sh_sheet (by omega) | exact sh_items (by omega) | exact sh_sums (by omega)) rfl rfl ?_
                refine wp_aload_n (pc := 0) dX12_sumFrom_0 (by first | rfl | assumption | (repeat first | assumption | rfl | refine aG_n ?_ rfl rfl)) ?_
                refine wp_getR (pc := 1) dX12_sumFrom_1 fl_12_119 (by first | rfl | assumption | exact sh_house (by omega) | exact sh_wish (by omega) | exact sh_wor (by omega) | exact sh_bar (by omega) | exact sh_term (by omega) | exact sh_sheet (by omega) | exact sh_items (by omega) | exact sh_sums (by omega)) rfl ?_
                refine wp_iload_n (pc := 4) dX12_sumFrom_4 (by first | rfl | assumption | (repeat first | assumption | rfl | refine aG_n ?_ rfl rfl)) ?_
                refine wp_ialdC (pc := 5) (j := 0) dX12_sumFrom_5 (by first | rfl | assumption | exact sh_house (by omega) | exact sh_wish (by omega) | exact sh_wor (by omega) | exact sh_bar (by omega) | exact sh_term (by omega) | exact sh_sheet (by omega) | exact sh_items (by omega) | exact sh_sums (by omega)) (by decide) (by decide) ?_
                refine wp_aload_n (pc := 6) dX12_sumFrom_6 (by first | rfl | assumption | (repeat first | assumption | rfl | refine aG_n ?_ rfl rfl)) ?_
                refine wp_getR (pc := 7) dX12_sumFrom_7 fl_12_119 (by first | rfl | assumption | exact sh_house (by omega) | exact sh_wish (by omega) | exact sh_wor (by omega) | exact sh_bar (by omega) | exact sh_term (by omega) | exact sh_sheet (by omega) | exact sh_items (by omega) | exact sh_sums (by omega)) rfl ?_
                refine wp_iload_n (pc := 10) dX12_sumFrom_10 (by first | rfl | assumption | (repeat first | assumption | rfl | refine aG_n ?_ rfl rfl)) ?_
                refine wp_iconst (pc := 11) (v := 1) dX12_sumFrom_11 (by decide) ?_
                refine wp_iadd (pc := 12) dX12_sumFrom_12 ?_
                refine wp_bipush (pc := 13) (v := 8) dX12_sumFrom_13 (by decide) ?_
                refine wp_irem (pc := 15) dX12_sumFrom_15 (by decide) ?_
                refine wp_ialdC (pc := 16) (j := 1) dX12_sumFrom_16 (by first | rfl | assumption | exact sh_house (by omega) | exact sh_wish (by omega) | exact sh_wor (by omega) | exact sh_bar (by omega) | exact sh_term (by omega) | exact sh_sheet (by omega) | exact sh_items (by omega) | exact sh_sums (by omega)) (by decide) (by decide) ?_
                refine wp_cS (pc := 17) dX12_sumFrom_17 lk_12_344 rfl rfl rfl (c_X12_sumOf (aK_i ?_))
                refine wp_istore_n (pc := 20) dX12_sumFrom_20 (by decide) ?_
                refine wp_iload_n (pc := 21) dX12_sumFrom_21 (by first | rfl | assumption | (repeat first | assumption | rfl | refine aG_n ?_ rfl rfl)) ?_
                refine wp_iconst (pc := 22) (v := 4) dX12_sumFrom_22 (by decide) ?_
                refine wp_icmp_ge (pc := 23) (tgt := 42) dX12_sumFrom_23 rfl (fun _ => ?_) (fun q => absurd q (by decide))
                refine wp_iload_n (pc := 42) dX12_sumFrom_42 (by first | rfl | assumption | (repeat first | assumption | rfl | refine aG_n ?_ rfl rfl)) ?_
                refine wp_aload_n (pc := 43) dX12_sumFrom_43 (by first | rfl | assumption | (repeat first | assumption | rfl | refine aG_n ?_ rfl rfl)) ?_
                refine wp_getR (pc := 44) dX12_sumFrom_44 fl_12_119 (by first | rfl | assumption | exact sh_house (by omega) | exact sh_wish (by omega) | exact sh_wor (by omega) | exact sh_bar (by omega) | exact sh_term (by omega) | exact sh_sheet (by omega) | exact sh_items (by omega) | exact sh_sums (by omega)) rfl ?_
                refine wp_iload_n (pc := 47) dX12_sumFrom_47 (by first | rfl | assumption | (repeat first | assumption | rfl | refine aG_n ?_ rfl rfl)) ?_
                refine wp_iconst (pc := 48) (v := 2) dX12_sumFrom_48 (by decide) ?_
                refine wp_iadd (pc := 49) dX12_sumFrom_49 ?_
                refine wp_ialdC (pc := 50) (j := 2) dX12_sumFrom_50 (by first | rfl | assumption | exact sh_house (by omega) | exact sh_wish (by omega) | exact sh_wor (by omega) | exact sh_bar (by omega) | exact sh_term (by omega) | exact sh_sheet (by omega) | exact sh_items (by omega) | exact sh_sums (by omega)) (by decide) (by decide) ?_
                refine wp_aload_n (pc := 51) dX12_sumFrom_51 (by first | rfl | assumption | (repeat first | assumption | rfl | refine aG_n ?_ rfl rfl)) ?_
                refine wp_getR (pc := 52) dX12_sumFrom_52 fl_12_119 (by first | rfl | assumption | exact sh_house (by omega) | exact sh_wish (by omega) | exact sh_wor (by omega) | exact sh_bar (by omega) | exact sh_term (by omega) | exact sh_sheet (by omega) | exact sh_items (by omega) | exact sh_sums (by omega)) rfl ?_
                refine wp_iload_n (pc := 55) dX12_sumFrom_55 (by first | rfl | assumption | (repeat first | assumption | rfl | refine aG_n ?_ rfl rfl)) ?_
                refine wp_iconst (pc := 56) (v := 3) dX12_sumFrom_56 (by decide) ?_
                refine wp_iadd (pc := 57) dX12_sumFrom_57 ?_
                refine wp_ialdC (pc := 58) (j := 3) dX12_sumFrom_58 (by first | rfl | assumption | exact sh_house (by omega) | exact sh_wish (by omega) | exact sh_wor (by omega) | exact sh_bar (by omega) | exact sh_term (by omega) | exact sh_sheet (by omega) | exact sh_items (by omega) | exact sh_sums (by omega)) (by decide) (by decide) ?_
                refine wp_cS (pc := 59) dX12_sumFrom_59 lk_12_344 rfl rfl rfl (c_X12_sumOf (aK_i ?_))
                refine wp_cS (pc := 62) dX12_sumFrom_62 lk_12_344 rfl rfl rfl (c_X12_sumOf (aK_i ?_))
                refine wp_istore (pc := 65) dX12_sumFrom_65 (by decide) ?_
                refine wp_iload_n (pc := 67) dX12_sumFrom_67 (by first | rfl | assumption | (repeat first | assumption | rfl | refine aG_n ?_ rfl rfl)) ?_
                refine wp_iconst (pc := 68) (v := 4) dX12_sumFrom_68 (by decide) ?_
                refine wp_icmp_ne (pc := 69) (tgt := 75) dX12_sumFrom_69 rfl (fun _ => ?_) (fun q => absurd q (by decide))
                refine wp_iload (pc := 75) dX12_sumFrom_75 (by first | rfl | assumption | (repeat first | assumption | rfl | refine aG_n ?_ rfl rfl)) ?_
                refine wp_aload_n (pc := 77) dX12_sumFrom_77 (by first | rfl | assumption | (repeat first | assumption | rfl | refine aG_n ?_ rfl rfl)) ?_
                refine wp_getR (pc := 78) dX12_sumFrom_78 fl_12_119 (by first | rfl | assumption | exact sh_house (by omega) | exact sh_wish (by omega) | exact sh_wor (by omega) | exact sh_bar (by omega) | exact sh_term (by omega) | exact sh_sheet (by omega) | exact sh_items (by omega) | exact sh_sums (by omega)) rfl ?_
                refine wp_iconst (pc := 81) (v := 4) dX12_sumFrom_81 (by decide) ?_
                refine wp_ialdC (pc := 82) (j := 4) dX12_sumFrom_82 (by first | rfl | assumption | exact sh_house (by omega) | exact sh_wish (by omega) | exact sh_wor (by omega) | exact sh_bar (by omega) | exact sh_term (by omega) | exact sh_sheet (by omega) | exact sh_items (by omega) | exact sh_sums (by omega)) (by decide) (by decide) ?_
                refine wp_aload_n (pc := 83) dX12_sumFrom_83 (by first | rfl | assumption | (repeat first | assumption | rfl | refine aG_n ?_ rfl rfl)) ?_
                refine wp_getR (pc := 84) dX12_sumFrom_84 fl_12_119 (by first | rfl | assumption | exact sh_house (by omega) | exact sh_wish (by omega) | exact sh_wor (by omega) | exact sh_bar (by omega) | exact sh_term (by omega) | exact sh_sheet (by omega) | exact sh_items (by omega) | exact sh_sums (by omega)) rfl ?_
                refine wp_iconst (pc := 87) (v := 5) dX12_sumFrom_87 (by decide) ?_
                refine wp_ialdC (pc := 88) (j := 5) dX12_sumFrom_88 (by first | rfl | assumption | exact sh_house (by omega) | exact sh_wish (by omega) | exact sh_wor (by omega) | exact sh_bar (by omega) | exact sh_term (by omega) | exact sh_sheet (by omega) | exact sh_items (by omega) | exact sh_sums (by omega)) (by decide) (by decide) ?_
                refine wp_cS (pc := 89) dX12_sumFrom_89 lk_12_344 rfl rfl rfl (c_X12_sumOf (aK_i ?_))
                refine wp_aload_n (pc := 92) dX12_sumFrom_92 (by first | rfl | assumption | (repeat first | assumption | rfl | refine aG_n ?_ rfl rfl)) ?_
                refine wp_getR (pc := 93) dX12_sumFrom_93 fl_12_119 (by first | rfl | assumption | exact sh_house (by omega) | exact sh_wish (by omega) | exact sh_wor (by omega) | exact sh_bar (by omega) | exact sh_term (by omega) | exact sh_sheet (by omega) | exact sh_items (by omega) | exact sh_sums (by omega)) rfl ?_
                refine wp_bipush (pc := 96) (v := 6) dX12_sumFrom_96 (by decide) ?_
                refine wp_ialdC (pc := 98) (j := 6) dX12_sumFrom_98 (by first | rfl | assumption | exact sh_house (by omega) | exact sh_wish (by omega) | exact sh_wor (by omega) | exact sh_bar (by omega) | exact sh_term (by omega) | exact sh_sheet (by omega) | exact sh_items (by omega) | exact sh_sums (by omega)) (by decide) (by decide) ?_
                refine wp_aload_n (pc := 99) dX12_sumFrom_99 (by first | rfl | assumption | (repeat first | assumption | rfl | refine aG_n ?_ rfl rfl)) ?_
                refine wp_getR (pc := 100) dX12_sumFrom_100 fl_12_119 (by first | rfl | assumption | exact sh_house (by omega) | exact sh_wish (by omega) | exact sh_wor (by omega) | exact sh_bar (by omega) | exact sh_term (by omega) | exact sh_sheet (by omega) | exact sh_items (by omega) | exact sh_sums (by omega)) rfl ?_
                refine wp_bipush (pc := 103) (v := 7) dX12_sumFrom_103 (by decide) ?_
                refine wp_ialdC (pc := 105) (j := 7) dX12_sumFrom_105 (by first | rfl | assumption | exact sh_house (by omega) | exact sh_wish (by omega) | exact sh_wor (by omega) | exact sh_bar (by omega) | exact sh_term (by omega) | exact sh_sheet (by omega) | exact sh_items (by omega) | exact sh_sums (by omega)) (by decide) (by decide) ?_
                refine wp_cS (pc := 106) dX12_sumFrom_106 lk_12_344 rfl rfl rfl (c_X12_sumOf (aK_i ?_))
                refine wp_cS (pc := 109) dX12_sumFrom_109 lk_12_344 rfl rfl rfl (c_X12_sumOf (aK_i ?_))
                refine wp_cS (pc := 112) dX12_sumFrom_112 lk_12_344 rfl rfl rfl (c_X12_sumOf (aK_i ?_))
                refine wp_iretK (pc := 115) dX12_sumFrom_115 rfl (by first | rfl | decide | assumption) ?_
                refine wp_icmp_ne (pc := 81) (tgt := 88) dX12_proves_81 rfl (fun _ => ?_) (fun q => absurd q (by rw [root_eq hR]; exact c5))
                refine wp_iconst (pc := 88) (v := 0) dX12_proves_88 (by decide) ?_
                refine wp_ireturn (pc := 89) dX12_proves_89 rfl (by first | rfl | decide | assumption) ?_
                exact k' _ hI
            | 2, _ =>
              by_cases c5 : sm2 (sm2 (y) (sm2 (v) (x))) (z) = μ.1 53 1
              · skip
                refine wp_iload_n (pc := 0) dX11_proves_0 (by first | rfl | assumption | (repeat first | assumption | rfl | refine aG_n ?_ rfl rfl)) ?_
                refine wp_iconst (pc := 1) (v := 0) dX11_proves_1 (by decide) ?_
                refine wp_bipush (pc := 2) (v := 7) dX11_proves_2 (by decide) ?_
                refine wp_cS (pc := 4) dX11_proves_4 lk_11_112 rfl rfl rfl (c_X11_isWithin (fun _ => aK_i ?_) (fun q => absurd c0 q))
                refine wp_if_eq (pc := 7) (tgt := 40) dX11_proves_7 rfl (fun q => absurd q (by decide)) (fun _ => ?_)
                refine wp_iload_n (pc := 10) dX11_proves_10 (by first | rfl | assumption | (repeat first | assumption | rfl | refine aG_n ?_ rfl rfl)) ?_
                refine wp_cS (pc := 11) dX11_proves_11 lk_11_355 rfl rfl rfl (c_X11_isSum (fun _ => aK_i ?_) (fun q => absurd c1 q))
                refine wp_if_eq (pc := 14) (tgt := 40) dX11_proves_14 rfl (fun q => absurd q (by decide)) (fun _ => ?_)
                refine wp_iload_n (pc := 17) dX11_proves_17 (by first | rfl | assumption | (repeat first | assumption | rfl | refine aG_n ?_ rfl rfl)) ?_
                refine wp_cS (pc := 18) dX11_proves_18 lk_11_355 rfl rfl rfl (c_X11_isSum (fun _ => aK_i ?_) (fun q => absurd c2 q))
                refine wp_if_eq (pc := 21) (tgt := 40) dX11_proves_21 rfl (fun q => absurd q (by decide)) (fun _ => ?_)
                refine wp_iload (pc := 24) dX11_proves_24 (by first | rfl | assumption | (repeat first | assumption | rfl | refine aG_n ?_ rfl rfl)) ?_
                refine wp_cS (pc := 26) dX11_proves_26 lk_11_355 rfl rfl rfl (c_X11_isSum (fun _ => aK_i ?_) (fun q => absurd c3 q))
                refine wp_if_eq (pc := 29) (tgt := 40) dX11_proves_29 rfl (fun q => absurd q (by decide)) (fun _ => ?_)
                refine wp_iload (pc := 32) dX11_proves_32 (by first | rfl | assumption | (repeat first | assumption | rfl | refine aG_n ?_ rfl rfl)) ?_
                refine wp_cS (pc := 34) dX11_proves_34 lk_11_355 rfl rfl rfl (c_X11_isSum (fun _ => aK_i ?_) (fun q => absurd c4 q))
                refine wp_if_ne (pc := 37) (tgt := 42) dX11_proves_37 rfl (fun _ => ?_) (fun q => absurd q (by decide))
                refine wp_iload_n (pc := 42) dX11_proves_42 (by first | rfl | assumption | (repeat first | assumption | rfl | refine aG_n ?_ rfl rfl)) ?_
                refine wp_iload_n (pc := 43) dX11_proves_43 (by first | rfl | assumption | (repeat first | assumption | rfl | refine aG_n ?_ rfl rfl)) ?_
                refine wp_iload_n (pc := 44) dX11_proves_44 (by first | rfl | assumption | (repeat first | assumption | rfl | refine aG_n ?_ rfl rfl)) ?_
                refine wp_cS (pc := 45) dX11_proves_45 lk_11_358 rfl rfl rfl ?_
                refine wp_iload_n (pc := 0) dX5_climb_0 (by first | rfl | assumption | (repeat first | assumption | rfl | refine aG_n ?_ rfl rfl)) ?_
                refine wp_iconst (pc := 1) (v := 1) dX5_climb_1 (by decide) ?_
                refine wp_iand (pc := 2) dX5_climb_2 ?_
                refine wp_if_ne (pc := 3) (tgt := 14) dX5_climb_3 rfl (fun q => absurd q (by decide)) (fun _ => ?_)
                refine wp_iload_n (pc := 6) dX5_climb_6 (by first | rfl | assumption | (repeat first | assumption | rfl | refine aG_n ?_ rfl rfl)) ?_
                refine wp_iload_n (pc := 7) dX5_climb_7 (by first | rfl | assumption | (repeat first | assumption | rfl | refine aG_n ?_ rfl rfl)) ?_
                refine wp_cS (pc := 8) dX5_climb_8 lk_5_13 rfl rfl rfl (c_X5_sum (aK_i ?_))
                refine wp_goto (pc := 11) (tgt := 19) dX5_climb_11 rfl ?_
                refine wp_iretK (pc := 19) dX5_climb_19 rfl (by first | rfl | decide | assumption) ?_
                refine wp_istore (pc := 48) dX11_proves_48 (by decide) ?_
                refine wp_iload_n (pc := 50) dX11_proves_50 (by first | rfl | assumption | (repeat first | assumption | rfl | refine aG_n ?_ rfl rfl)) ?_
                refine wp_iconst (pc := 51) (v := 1) dX11_proves_51 (by decide) ?_
                refine wp_ishr (pc := 52) dX11_proves_52 ?_
                refine wp_iload (pc := 53) dX11_proves_53 (by first | rfl | assumption | (repeat first | assumption | rfl | refine aG_n ?_ rfl rfl)) ?_
                refine wp_iload (pc := 55) dX11_proves_55 (by first | rfl | assumption | (repeat first | assumption | rfl | refine aG_n ?_ rfl rfl)) ?_
                refine wp_cS (pc := 57) dX11_proves_57 lk_11_358 rfl rfl rfl ?_
                refine wp_iload_n (pc := 0) dX5_climb_0 (by first | rfl | assumption | (repeat first | assumption | rfl | refine aG_n ?_ rfl rfl)) ?_
                refine wp_iconst (pc := 1) (v := 1) dX5_climb_1 (by decide) ?_
                refine wp_iand (pc := 2) dX5_climb_2 ?_
                refine wp_if_ne (pc := 3) (tgt := 14) dX5_climb_3 rfl (fun _ => ?_) (fun q => absurd q (by decide))
                refine wp_iload_n (pc := 14) dX5_climb_14 (by first | rfl | assumption | (repeat first | assumption | rfl | refine aG_n ?_ rfl rfl)) ?_
                refine wp_iload_n (pc := 15) dX5_climb_15 (by first | rfl | assumption | (repeat first | assumption | rfl | refine aG_n ?_ rfl rfl)) ?_
                refine wp_cS (pc := 16) dX5_climb_16 lk_5_13 rfl rfl rfl (c_X5_sum (aK_i ?_))
                refine wp_iretK (pc := 19) dX5_climb_19 rfl (by first | rfl | decide | assumption) ?_
                refine wp_istore (pc := 60) dX11_proves_60 (by decide) ?_
                refine wp_iload_n (pc := 62) dX11_proves_62 (by first | rfl | assumption | (repeat first | assumption | rfl | refine aG_n ?_ rfl rfl)) ?_
                refine wp_iconst (pc := 63) (v := 2) dX11_proves_63 (by decide) ?_
                refine wp_ishr (pc := 64) dX11_proves_64 ?_
                refine wp_iload (pc := 65) dX11_proves_65 (by first | rfl | assumption | (repeat first | assumption | rfl | refine aG_n ?_ rfl rfl)) ?_
                refine wp_iload (pc := 67) dX11_proves_67 (by first | rfl | assumption | (repeat first | assumption | rfl | refine aG_n ?_ rfl rfl)) ?_
                refine wp_cS (pc := 69) dX11_proves_69 lk_11_358 rfl rfl rfl ?_
                refine wp_iload_n (pc := 0) dX5_climb_0 (by first | rfl | assumption | (repeat first | assumption | rfl | refine aG_n ?_ rfl rfl)) ?_
                refine wp_iconst (pc := 1) (v := 1) dX5_climb_1 (by decide) ?_
                refine wp_iand (pc := 2) dX5_climb_2 ?_
                refine wp_if_ne (pc := 3) (tgt := 14) dX5_climb_3 rfl (fun q => absurd q (by decide)) (fun _ => ?_)
                refine wp_iload_n (pc := 6) dX5_climb_6 (by first | rfl | assumption | (repeat first | assumption | rfl | refine aG_n ?_ rfl rfl)) ?_
                refine wp_iload_n (pc := 7) dX5_climb_7 (by first | rfl | assumption | (repeat first | assumption | rfl | refine aG_n ?_ rfl rfl)) ?_
                refine wp_cS (pc := 8) dX5_climb_8 lk_5_13 rfl rfl rfl (c_X5_sum (aK_i ?_))
                refine wp_goto (pc := 11) (tgt := 19) dX5_climb_11 rfl ?_
                refine wp_iretK (pc := 19) dX5_climb_19 rfl (by first | rfl | decide | assumption) ?_
                refine wp_istore (pc := 72) dX11_proves_72 (by decide) ?_
                refine wp_iload (pc := 74) dX11_proves_74 (by first | rfl | assumption | (repeat first | assumption | rfl | refine aG_n ?_ rfl rfl)) ?_
                refine wp_aload_n (pc := 76) dX11_proves_76 (by first | rfl | assumption | (repeat first | assumption | rfl | refine aG_n ?_ rfl rfl)) ?_
                refine wp_getR (pc := 77) dX11_proves_77 fl_11_60 (by first | rfl | assumption | exact sh_house (by omega) | exact sh_wish (by omega) | exact sh_wor (by omega) | exact sh_bar (by omega) | exact sh_term (by omega) | exact sh_sheet (by omega) | exact sh_items (by omega) | exact sh_sums (by omega)) rfl ?_
                refine wp_getR (pc := 80) dX11_proves_80 fl_11_349 (by first | rfl | assumption | exact sh_house (by omega) | exact sh_wish (by omega) | exact sh_wor (by omega) | exact sh_bar (by omega) | exact sh_term (by omega) | exact sh_sheet (by omega) | exact sh_items (by omega) | exact sh_sums (by omega)) rfl ?_
                refine wp_iconst (pc := 83) (v := 1) dX11_proves_83 (by decide) ?_
                refine wp_ialdC (pc := 84) (j := 1) dX11_proves_84 (by first | rfl | assumption | exact sh_house (by omega) | exact sh_wish (by omega) | exact sh_wor (by omega) | exact sh_bar (by omega) | exact sh_term (by omega) | exact sh_sheet (by omega) | exact sh_items (by omega) | exact sh_sums (by omega)) (by decide) (by decide) ?_
                refine wp_icmp_ne (pc := 85) (tgt := 92) dX11_proves_85 rfl (fun q => absurd c5 q) (fun _ => ?_)
                refine wp_iconst (pc := 88) (v := 1) dX11_proves_88 (by decide) ?_
                refine wp_goto (pc := 89) (tgt := 93) dX11_proves_89 rfl ?_
                refine wp_cS (pc := 93) dX11_proves_93 lk_11_148 rfl rfl rfl ?_
                refine wp_iload_n (pc := 0) dX11_oneIf_0 (by first | rfl | assumption | (repeat first | assumption | rfl | refine aG_n ?_ rfl rfl)) ?_
                refine wp_if_eq (pc := 1) (tgt := 8) dX11_oneIf_1 rfl (fun q => absurd q (by decide)) (fun _ => ?_)
                refine wp_iconst (pc := 4) (v := 1) dX11_oneIf_4 (by decide) ?_
                refine wp_goto (pc := 5) (tgt := 9) dX11_oneIf_5 rfl ?_
                refine wp_iretK (pc := 9) dX11_oneIf_9 rfl (by first | rfl | decide | assumption) ?_
                refine wp_ireturn (pc := 96) dX11_proves_96 rfl (by first | rfl | decide | assumption) ?_
                refine k _ _ (fun Q' k' => ?_)
                refine wp_iload_n (pc := 0) dX12_proves_0 (by first | rfl | assumption | (repeat first | assumption | rfl | refine aG_n ?_ rfl rfl)) ?_
                refine wp_i2l (pc := 1) dX12_proves_1 ?_
                refine wp_lconst (pc := 2) (v := 0) dX12_proves_2 (by decide) ?_
                refine wp_ldc2 (pc := 3) dX12_proves_3 cl_12_347 ?_
                refine wp_cS (pc := 6) dX12_proves_6 lk_12_133 rfl rfl rfl (c_X12_in (fun _ => aK_i ?_) (fun q => absurd (by rw [w_int]; exact c0) q))
                refine wp_if_eq (pc := 9) (tgt := 42) dX12_proves_9 rfl (fun q => absurd q (by decide)) (fun _ => ?_)
                refine wp_iload_n (pc := 12) dX12_proves_12 (by first | rfl | assumption | (repeat first | assumption | rfl | refine aG_n ?_ rfl rfl)) ?_
                refine wp_cS (pc := 13) dX12_proves_13 lk_12_354 rfl rfl rfl (c_X12_isSum (fun _ => aK_i ?_) (fun q => absurd c1 q))
                refine wp_if_eq (pc := 16) (tgt := 42) dX12_proves_16 rfl (fun q => absurd q (by decide)) (fun _ => ?_)
                refine wp_iload_n (pc := 19) dX12_proves_19 (by first | rfl | assumption | (repeat first | assumption | rfl | refine aG_n ?_ rfl rfl)) ?_
                refine wp_cS (pc := 20) dX12_proves_20 lk_12_354 rfl rfl rfl (c_X12_isSum (fun _ => aK_i ?_) (fun q => absurd c2 q))
                refine wp_if_eq (pc := 23) (tgt := 42) dX12_proves_23 rfl (fun q => absurd q (by decide)) (fun _ => ?_)
                refine wp_iload (pc := 26) dX12_proves_26 (by first | rfl | assumption | (repeat first | assumption | rfl | refine aG_n ?_ rfl rfl)) ?_
                refine wp_cS (pc := 28) dX12_proves_28 lk_12_354 rfl rfl rfl (c_X12_isSum (fun _ => aK_i ?_) (fun q => absurd c3 q))
                refine wp_if_eq (pc := 31) (tgt := 42) dX12_proves_31 rfl (fun q => absurd q (by decide)) (fun _ => ?_)
                refine wp_iload (pc := 34) dX12_proves_34 (by first | rfl | assumption | (repeat first | assumption | rfl | refine aG_n ?_ rfl rfl)) ?_
                refine wp_cS (pc := 36) dX12_proves_36 lk_12_354 rfl rfl rfl (c_X12_isSum (fun _ => aK_i ?_) (fun q => absurd c4 q))
                refine wp_if_ne (pc := 39) (tgt := 44) dX12_proves_39 rfl (fun _ => ?_) (fun q => absurd q (by decide))
                refine wp_iload_n (pc := 44) dX12_proves_44 (by first | rfl | assumption | (repeat first | assumption | rfl | refine aG_n ?_ rfl rfl)) ?_
                refine wp_iload_n (pc := 45) dX12_proves_45 (by first | rfl | assumption | (repeat first | assumption | rfl | refine aG_n ?_ rfl rfl)) ?_
                refine wp_iload_n (pc := 46) dX12_proves_46 (by first | rfl | assumption | (repeat first | assumption | rfl | refine aG_n ?_ rfl rfl)) ?_
                refine wp_cS (pc := 47) dX12_proves_47 lk_12_357 rfl rfl rfl ?_
                refine wp_iload_n (pc := 0) dX12_sumBeside_0 (by first | rfl | assumption | (repeat first | assumption | rfl | refine aG_n ?_ rfl rfl)) ?_
                refine wp_iconst (pc := 1) (v := 2) dX12_sumBeside_1 (by decide) ?_
                refine wp_irem (pc := 2) dX12_sumBeside_2 (by decide) ?_
                refine wp_if_ne (pc := 3) (tgt := 14) dX12_sumBeside_3 rfl (fun q => absurd q (by decide)) (fun _ => ?_)
                refine wp_iload_n (pc := 6) dX12_sumBeside_6 (by first | rfl | assumption | (repeat first | assumption | rfl | refine aG_n ?_ rfl rfl)) ?_
                refine wp_iload_n (pc := 7) dX12_sumBeside_7 (by first | rfl | assumption | (repeat first | assumption | rfl | refine aG_n ?_ rfl rfl)) ?_
                refine wp_cS (pc := 8) dX12_sumBeside_8 lk_12_344 rfl rfl rfl (c_X12_sumOf (aK_i ?_))
                refine wp_goto (pc := 11) (tgt := 19) dX12_sumBeside_11 rfl ?_
                refine wp_iretK (pc := 19) dX12_sumBeside_19 rfl (by first | rfl | decide | assumption) ?_
                refine wp_istore (pc := 50) dX12_proves_50 (by decide) ?_
                refine wp_iload_n (pc := 52) dX12_proves_52 (by first | rfl | assumption | (repeat first | assumption | rfl | refine aG_n ?_ rfl rfl)) ?_
                refine wp_iconst (pc := 53) (v := 2) dX12_proves_53 (by decide) ?_
                refine wp_idiv (pc := 54) dX12_proves_54 (by decide) ?_
                refine wp_iload (pc := 55) dX12_proves_55 (by first | rfl | assumption | (repeat first | assumption | rfl | refine aG_n ?_ rfl rfl)) ?_
                refine wp_iload (pc := 57) dX12_proves_57 (by first | rfl | assumption | (repeat first | assumption | rfl | refine aG_n ?_ rfl rfl)) ?_
                refine wp_cS (pc := 59) dX12_proves_59 lk_12_357 rfl rfl rfl ?_
                refine wp_iload_n (pc := 0) dX12_sumBeside_0 (by first | rfl | assumption | (repeat first | assumption | rfl | refine aG_n ?_ rfl rfl)) ?_
                refine wp_iconst (pc := 1) (v := 2) dX12_sumBeside_1 (by decide) ?_
                refine wp_irem (pc := 2) dX12_sumBeside_2 (by decide) ?_
                refine wp_if_ne (pc := 3) (tgt := 14) dX12_sumBeside_3 rfl (fun _ => ?_) (fun q => absurd q (by decide))
                refine wp_iload_n (pc := 14) dX12_sumBeside_14 (by first | rfl | assumption | (repeat first | assumption | rfl | refine aG_n ?_ rfl rfl)) ?_
                refine wp_iload_n (pc := 15) dX12_sumBeside_15 (by first | rfl | assumption | (repeat first | assumption | rfl | refine aG_n ?_ rfl rfl)) ?_
                refine wp_cS (pc := 16) dX12_sumBeside_16 lk_12_344 rfl rfl rfl (c_X12_sumOf (aK_i ?_))
                refine wp_iretK (pc := 19) dX12_sumBeside_19 rfl (by first | rfl | decide | assumption) ?_
                refine wp_istore (pc := 62) dX12_proves_62 (by decide) ?_
                refine wp_iload_n (pc := 64) dX12_proves_64 (by first | rfl | assumption | (repeat first | assumption | rfl | refine aG_n ?_ rfl rfl)) ?_
                refine wp_iconst (pc := 65) (v := 4) dX12_proves_65 (by decide) ?_
                refine wp_idiv (pc := 66) dX12_proves_66 (by decide) ?_
                refine wp_iload (pc := 67) dX12_proves_67 (by first | rfl | assumption | (repeat first | assumption | rfl | refine aG_n ?_ rfl rfl)) ?_
                refine wp_iload (pc := 69) dX12_proves_69 (by first | rfl | assumption | (repeat first | assumption | rfl | refine aG_n ?_ rfl rfl)) ?_
                refine wp_cS (pc := 71) dX12_proves_71 lk_12_357 rfl rfl rfl ?_
                refine wp_iload_n (pc := 0) dX12_sumBeside_0 (by first | rfl | assumption | (repeat first | assumption | rfl | refine aG_n ?_ rfl rfl)) ?_
                refine wp_iconst (pc := 1) (v := 2) dX12_sumBeside_1 (by decide) ?_
                refine wp_irem (pc := 2) dX12_sumBeside_2 (by decide) ?_
                refine wp_if_ne (pc := 3) (tgt := 14) dX12_sumBeside_3 rfl (fun q => absurd q (by decide)) (fun _ => ?_)
                refine wp_iload_n (pc := 6) dX12_sumBeside_6 (by first | rfl | assumption | (repeat first | assumption | rfl | refine aG_n ?_ rfl rfl)) ?_
                refine wp_iload_n (pc := 7) dX12_sumBeside_7 (by first | rfl | assumption | (repeat first | assumption | rfl | refine aG_n ?_ rfl rfl)) ?_
                refine wp_cS (pc := 8) dX12_sumBeside_8 lk_12_344 rfl rfl rfl (c_X12_sumOf (aK_i ?_))
                refine wp_goto (pc := 11) (tgt := 19) dX12_sumBeside_11 rfl ?_
                refine wp_iretK (pc := 19) dX12_sumBeside_19 rfl (by first | rfl | decide | assumption) ?_
                refine wp_aload_n (pc := 74) dX12_proves_74 (by first | rfl | assumption | (repeat first | assumption | rfl | refine aG_n ?_ rfl rfl)) ?_
                refine wp_iconst (pc := 75) (v := 0) dX12_proves_75 (by decide) ?_
                refine wp_bipush (pc := 76) (v := 8) dX12_proves_76 (by decide) ?_
                refine wp_cV (pc := 78) dX12_proves_78 lk_12_349 rfl (by decide) rfl (by first | rfl | assumption | exact sh_house (by omega) | exact sh_wish (by omega) | exact sh_wor (by omega) | exact sh_bar (by omega) | exact sh_term (by omega) | exact sh_sheet (by omega) | exact sh_items (by omega) | exact sh_sums (by omega)) rfl rfl ?_
                refine wp_aload_n (pc := 0) dX12_sumFrom_0 (by first | rfl | assumption | (repeat first | assumption | rfl | refine aG_n ?_ rfl rfl)) ?_
                refine wp_getR (pc := 1) dX12_sumFrom_1 fl_12_119 (by first | rfl | assumption | exact sh_house (by omega) | exact sh_wish (by omega) | exact sh_wor (by omega) | exact sh_bar (by omega) | exact sh_term (by omega) | exact sh_sheet (by omega) | exact sh_items (by omega) | exact sh_sums (by omega)) rfl ?_
                refine wp_iload_n (pc := 4) dX12_sumFrom_4 (by first | rfl | assumption | (repeat first | assumption | rfl | refine aG_n ?_ rfl rfl)) ?_
                refine wp_ialdC (pc := 5) (j := 0) dX12_sumFrom_5 (by first | rfl | assumption | exact sh_house (by omega) | exact sh_wish (by omega) | exact sh_wor (by omega) | exact sh_bar (by omega) | exact sh_term (by omega) | exact sh_sheet (by omega) | exact sh_items (by omega) | exact sh_sums (by omega)) (by decide) (by decide) ?_
                refine wp_aload_n (pc := 6) dX12_sumFrom_6 (by first | rfl | assumption | (repeat first | assumption | rfl | refine aG_n ?_ rfl rfl)) ?_
                refine wp_getR (pc := 7) dX12_sumFrom_7 fl_12_119 (by first | rfl | assumption | exact sh_house (by omega) | exact sh_wish (by omega) | exact sh_wor (by omega) | exact sh_bar (by omega) | exact sh_term (by omega) | exact sh_sheet (by omega) | exact sh_items (by omega) | exact sh_sums (by omega)) rfl ?_
                refine wp_iload_n (pc := 10) dX12_sumFrom_10 (by first | rfl | assumption | (repeat first | assumption | rfl | refine aG_n ?_ rfl rfl)) ?_
                refine wp_iconst (pc := 11) (v := 1) dX12_sumFrom_11 (by decide) ?_
                refine wp_iadd (pc := 12) dX12_sumFrom_12 ?_
                refine wp_bipush (pc := 13) (v := 8) dX12_sumFrom_13 (by decide) ?_
                refine wp_irem (pc := 15) dX12_sumFrom_15 (by decide) ?_
                refine wp_ialdC (pc := 16) (j := 1) dX12_sumFrom_16 (by first | rfl | assumption | exact sh_house (by omega) | exact sh_wish (by omega) | exact sh_wor (by omega) | exact sh_bar (by omega) | exact sh_term (by omega) | exact sh_sheet (by omega) | exact sh_items (by omega) | exact sh_sums (by omega)) (by decide) (by decide) ?_
                refine wp_cS (pc := 17) dX12_sumFrom_17 lk_12_344 rfl rfl rfl (c_X12_sumOf (aK_i ?_))
                refine wp_istore_n (pc := 20) dX12_sumFrom_20 (by decide) ?_
                refine wp_iload_n (pc := 21) dX12_sumFrom_21 (by first | rfl | assumption | (repeat first | assumption | rfl | refine aG_n ?_ rfl rfl)) ?_
                refine wp_iconst (pc := 22) (v := 4) dX12_sumFrom_22 (by decide) ?_
                refine wp_icmp_ge (pc := 23) (tgt := 42) dX12_sumFrom_23 rfl (fun _ => ?_) (fun q => absurd q (by decide))
                refine wp_iload_n (pc := 42) dX12_sumFrom_42 (by first | rfl | assumption | (repeat first | assumption | rfl | refine aG_n ?_ rfl rfl)) ?_
                refine wp_aload_n (pc := 43) dX12_sumFrom_43 (by first | rfl | assumption | (repeat first | assumption | rfl | refine aG_n ?_ rfl rfl)) ?_
                refine wp_getR (pc := 44) dX12_sumFrom_44 fl_12_119 (by first | rfl | assumption | exact sh_house (by omega) | exact sh_wish (by omega) | exact sh_wor (by omega) | exact sh_bar (by omega) | exact sh_term (by omega) | exact sh_sheet (by omega) | exact sh_items (by omega) | exact sh_sums (by omega)) rfl ?_
                refine wp_iload_n (pc := 47) dX12_sumFrom_47 (by first | rfl | assumption | (repeat first | assumption | rfl | refine aG_n ?_ rfl rfl)) ?_
                refine wp_iconst (pc := 48) (v := 2) dX12_sumFrom_48 (by decide) ?_
                refine wp_iadd (pc := 49) dX12_sumFrom_49 ?_
                refine wp_ialdC (pc := 50) (j := 2) dX12_sumFrom_50 (by first | rfl | assumption | exact sh_house (by omega) | exact sh_wish (by omega) | exact sh_wor (by omega) | exact sh_bar (by omega) | exact sh_term (by omega) | exact sh_sheet (by omega) | exact sh_items (by omega) | exact sh_sums (by omega)) (by decide) (by decide) ?_
                refine wp_aload_n (pc := 51) dX12_sumFrom_51 (by first | rfl | assumption | (repeat first | assumption | rfl | refine aG_n ?_ rfl rfl)) ?_
                refine wp_getR (pc := 52) dX12_sumFrom_52 fl_12_119 (by first | rfl | assumption | exact sh_house (by omega) | exact sh_wish (by omega) | exact sh_wor (by omega) | exact sh_bar (by omega) | exact sh_term (by omega) | exact sh_sheet (by omega) | exact sh_items (by omega) | exact sh_sums (by omega)) rfl ?_
                refine wp_iload_n (pc := 55) dX12_sumFrom_55 (by first | rfl | assumption | (repeat first | assumption | rfl | refine aG_n ?_ rfl rfl)) ?_
                refine wp_iconst (pc := 56) (v := 3) dX12_sumFrom_56 (by decide) ?_
                refine wp_iadd (pc := 57) dX12_sumFrom_57 ?_
                refine wp_ialdC (pc := 58) (j := 3) dX12_sumFrom_58 (by first | rfl | assumption | exact sh_house (by omega) | exact sh_wish (by omega) | exact sh_wor (by omega) | exact sh_bar (by omega) | exact sh_term (by omega) | exact sh_sheet (by omega) | exact sh_items (by omega) | exact sh_sums (by omega)) (by decide) (by decide) ?_
                refine wp_cS (pc := 59) dX12_sumFrom_59 lk_12_344 rfl rfl rfl (c_X12_sumOf (aK_i ?_))
                refine wp_cS (pc := 62) dX12_sumFrom_62 lk_12_344 rfl rfl rfl (c_X12_sumOf (aK_i ?_))
                refine wp_istore (pc := 65) dX12_sumFrom_65 (by decide) ?_
                refine wp_iload_n (pc := 67) dX12_sumFrom_67 (by first | rfl | assumption | (repeat first | assumption | rfl | refine aG_n ?_ rfl rfl)) ?_
                refine wp_iconst (pc := 68) (v := 4) dX12_sumFrom_68 (by decide) ?_
                refine wp_icmp_ne (pc := 69) (tgt := 75) dX12_sumFrom_69 rfl (fun _ => ?_) (fun q => absurd q (by decide))
                refine wp_iload (pc := 75) dX12_sumFrom_75 (by first | rfl | assumption | (repeat first | assumption | rfl | refine aG_n ?_ rfl rfl)) ?_
                refine wp_aload_n (pc := 77) dX12_sumFrom_77 (by first | rfl | assumption | (repeat first | assumption | rfl | refine aG_n ?_ rfl rfl)) ?_
                refine wp_getR (pc := 78) dX12_sumFrom_78 fl_12_119 (by first | rfl | assumption | exact sh_house (by omega) | exact sh_wish (by omega) | exact sh_wor (by omega) | exact sh_bar (by omega) | exact sh_term (by omega) | exact sh_sheet (by omega) | exact sh_items (by omega) | exact sh_sums (by omega)) rfl ?_
                refine wp_iconst (pc := 81) (v := 4) dX12_sumFrom_81 (by decide) ?_
                refine wp_ialdC (pc := 82) (j := 4) dX12_sumFrom_82 (by first | rfl | assumption | exact sh_house (by omega) | exact sh_wish (by omega) | exact sh_wor (by omega) | exact sh_bar (by omega) | exact sh_term (by omega) | exact sh_sheet (by omega) | exact sh_items (by omega) | exact sh_sums (by omega)) (by decide) (by decide) ?_
                refine wp_aload_n (pc := 83) dX12_sumFrom_83 (by first | rfl | assumption | (repeat first | assumption | rfl | refine aG_n ?_ rfl rfl)) ?_
                refine wp_getR (pc := 84) dX12_sumFrom_84 fl_12_119 (by first | rfl | assumption | exact sh_house (by omega) | exact sh_wish (by omega) | exact sh_wor (by omega) | exact sh_bar (by omega) | exact sh_term (by omega) | exact sh_sheet (by omega) | exact sh_items (by omega) | exact sh_sums (by omega)) rfl ?_
                refine wp_iconst (pc := 87) (v := 5) dX12_sumFrom_87 (by decide) ?_
                refine wp_ialdC (pc := 88) (j := 5) dX12_sumFrom_88 (by first | rfl | assumption | exact sh_house (by omega) | exact sh_wish (by omega) | exact sh_wor (by omega) | exact sh_bar (by omega) | exact sh_term (by omega) | exact sh_sheet (by omega) | exact sh_items (by omega) | exact sh_sums (by omega)) (by decide) (by decide) ?_
                refine wp_cS (pc := 89) dX12_sumFrom_89 lk_12_344 rfl rfl rfl (c_X12_sumOf (aK_i ?_))
                refine wp_aload_n (pc := 92) dX12_sumFrom_92 (by first | rfl | assumption | (repeat first | assumption | rfl | refine aG_n ?_ rfl rfl)) ?_
                refine wp_getR (pc := 93) dX12_sumFrom_93 fl_12_119 (by first | rfl | assumption | exact sh_house (by omega) | exact sh_wish (by omega) | exact sh_wor (by omega) | exact sh_bar (by omega) | exact sh_term (by omega) | exact sh_sheet (by omega) | exact sh_items (by omega) | exact sh_sums (by omega)) rfl ?_
                refine wp_bipush (pc := 96) (v := 6) dX12_sumFrom_96 (by decide) ?_
                refine wp_ialdC (pc := 98) (j := 6) dX12_sumFrom_98 (by first | rfl | assumption | exact sh_house (by omega) | exact sh_wish (by omega) | exact sh_wor (by omega) | exact sh_bar (by omega) | exact sh_term (by omega) | exact sh_sheet (by omega) | exact sh_items (by omega) | exact sh_sums (by omega)) (by decide) (by decide) ?_
                refine wp_aload_n (pc := 99) dX12_sumFrom_99 (by first | rfl | assumption | (repeat first | assumption | rfl | refine aG_n ?_ rfl rfl)) ?_
                refine wp_getR (pc := 100) dX12_sumFrom_100 fl_12_119 (by first | rfl | assumption | exact sh_house (by omega) | exact sh_wish (by omega) | exact sh_wor (by omega) | exact sh_bar (by omega) | exact sh_term (by omega) | exact sh_sheet (by omega) | exact sh_items (by omega) | exact sh_sums (by omega)) rfl ?_
                refine wp_bipush (pc := 103) (v := 7) dX12_sumFrom_103 (by decide) ?_
                refine wp_ialdC (pc := 105) (j := 7) dX12_sumFrom_105 (by first | rfl | assumption | exact sh_house (by omega) | exact sh_wish (by omega) | exact sh_wor (by omega) | exact sh_bar (by omega) | exact sh_term (by omega) | exact sh_sheet (by omega) | exact sh_items (by omega) | exact sh_sums (by omega)) (by decide) (by decide) ?_
                refine wp_cS (pc := 106) dX12_sumFrom_106 lk_12_344 rfl rfl rfl (c_X12_sumOf (aK_i ?_))
                refine wp_cS (pc := 109) dX12_sumFrom_109 lk_12_344 rfl rfl rfl (c_X12_sumOf (aK_i ?_))
                refine wp_cS (pc := 112) dX12_sumFrom_112 lk_12_344 rfl rfl rfl (c_X12_sumOf (aK_i ?_))
                refine wp_iretK (pc := 115) dX12_sumFrom_115 rfl (by first | rfl | decide | assumption) ?_
                refine wp_icmp_ne (pc := 81) (tgt := 88) dX12_proves_81 rfl (fun q => absurd (by rw [root_eq hR]; exact c5) q) (fun _ => ?_)
                refine wp_iconst (pc := 84) (v := 1) dX12_proves_84 (by decide) ?_
                refine wp_goto (pc := 85) (tgt := 89) dX12_proves_85 rfl ?_
                refine wp_ireturn (pc := 89) dX12_proves_89 rfl (by first | rfl | decide | assumption) ?_
                exact k' _ hI
              · skip
                refine wp_iload_n (pc := 0) dX11_proves_0 (by first | rfl | assumption | (repeat first | assumption | rfl | refine aG_n ?_ rfl rfl)) ?_
                refine wp_iconst (pc := 1) (v := 0) dX11_proves_1 (by decide) ?_
                refine wp_bipush (pc := 2) (v := 7) dX11_proves_2 (by decide) ?_
                refine wp_cS (pc := 4) dX11_proves_4 lk_11_112 rfl rfl rfl (c_X11_isWithin (fun _ => aK_i ?_) (fun q => absurd c0 q))
                refine wp_if_eq (pc := 7) (tgt := 40) dX11_proves_7 rfl (fun q => absurd q (by decide)) (fun _ => ?_)
                refine wp_iload_n (pc := 10) dX11_proves_10 (by first | rfl | assumption | (repeat first | assumption | rfl | refine aG_n ?_ rfl rfl)) ?_
                refine wp_cS (pc := 11) dX11_proves_11 lk_11_355 rfl rfl rfl (c_X11_isSum (fun _ => aK_i ?_) (fun q => absurd c1 q))
                refine wp_if_eq (pc := 14) (tgt := 40) dX11_proves_14 rfl (fun q => absurd q (by decide)) (fun _ => ?_)
                refine wp_iload_n (pc := 17) dX11_proves_17 (by first | rfl | assumption | (repeat first | assumption | rfl | refine aG_n ?_ rfl rfl)) ?_
                refine wp_cS (pc := 18) dX11_proves_18 lk_11_355 rfl rfl rfl (c_X11_isSum (fun _ => aK_i ?_) (fun q => absurd c2 q))
                refine wp_if_eq (pc := 21) (tgt := 40) dX11_proves_21 rfl (fun q => absurd q (by decide)) (fun _ => ?_)
                refine wp_iload (pc := 24) dX11_proves_24 (by first | rfl | assumption | (repeat first | assumption | rfl | refine aG_n ?_ rfl rfl)) ?_
                refine wp_cS (pc := 26) dX11_proves_26 lk_11_355 rfl rfl rfl (c_X11_isSum (fun _ => aK_i ?_) (fun q => absurd c3 q))
                refine wp_if_eq (pc := 29) (tgt := 40) dX11_proves_29 rfl (fun q => absurd q (by decide)) (fun _ => ?_)
                refine wp_iload (pc := 32) dX11_proves_32 (by first | rfl | assumption | (repeat first | assumption | rfl | refine aG_n ?_ rfl rfl)) ?_
                refine wp_cS (pc := 34) dX11_proves_34 lk_11_355 rfl rfl rfl (c_X11_isSum (fun _ => aK_i ?_) (fun q => absurd c4 q))
                refine wp_if_ne (pc := 37) (tgt := 42) dX11_proves_37 rfl (fun _ => ?_) (fun q => absurd q (by decide))
                refine wp_iload_n (pc := 42) dX11_proves_42 (by first | rfl | assumption | (repeat first | assumption | rfl | refine aG_n ?_ rfl rfl)) ?_
                refine wp_iload_n (pc := 43) dX11_proves_43 (by first | rfl | assumption | (repeat first | assumption | rfl | refine aG_n ?_ rfl rfl)) ?_
                refine wp_iload_n (pc := 44) dX11_proves_44 (by first | rfl | assumption | (repeat first | assumption | rfl | refine aG_n ?_ rfl rfl)) ?_
                refine wp_cS (pc := 45) dX11_proves_45 lk_11_358 rfl rfl rfl ?_
                refine wp_iload_n (pc := 0) dX5_climb_0 (by first | rfl | assumption | (repeat first | assumption | rfl | refine aG_n ?_ rfl rfl)) ?_
                refine wp_iconst (pc := 1) (v := 1) dX5_climb_1 (by decide) ?_
                refine wp_iand (pc := 2) dX5_climb_2 ?_
                refine wp_if_ne (pc := 3) (tgt := 14) dX5_climb_3 rfl (fun q => absurd q (by decide)) (fun _ => ?_)
                refine wp_iload_n (pc := 6) dX5_climb_6 (by first | rfl | assumption | (repeat first | assumption | rfl | refine aG_n ?_ rfl rfl)) ?_
                refine wp_iload_n (pc := 7) dX5_climb_7 (by first | rfl | assumption | (repeat first | assumption | rfl | refine aG_n ?_ rfl rfl)) ?_
                refine wp_cS (pc := 8) dX5_climb_8 lk_5_13 rfl rfl rfl (c_X5_sum (aK_i ?_))
                refine wp_goto (pc := 11) (tgt := 19) dX5_climb_11 rfl ?_
                refine wp_iretK (pc := 19) dX5_climb_19 rfl (by first | rfl | decide | assumption) ?_
                refine wp_istore (pc := 48) dX11_proves_48 (by decide) ?_
                refine wp_iload_n (pc := 50) dX11_proves_50 (by first | rfl | assumption | (repeat first | assumption | rfl | refine aG_n ?_ rfl rfl)) ?_
                refine wp_iconst (pc := 51) (v := 1) dX11_proves_51 (by decide) ?_
                refine wp_ishr (pc := 52) dX11_proves_52 ?_
                refine wp_iload (pc := 53) dX11_proves_53 (by first | rfl | assumption | (repeat first | assumption | rfl | refine aG_n ?_ rfl rfl)) ?_
                refine wp_iload (pc := 55) dX11_proves_55 (by first | rfl | assumption | (repeat first | assumption | rfl | refine aG_n ?_ rfl rfl)) ?_
                refine wp_cS (pc := 57) dX11_proves_57 lk_11_358 rfl rfl rfl ?_
                refine wp_iload_n (pc := 0) dX5_climb_0 (by first | rfl | assumption | (repeat first | assumption | rfl | refine aG_n ?_ rfl rfl)) ?_
                refine wp_iconst (pc := 1) (v := 1) dX5_climb_1 (by decide) ?_
                refine wp_iand (pc := 2) dX5_climb_2 ?_
                refine wp_if_ne (pc := 3) (tgt := 14) dX5_climb_3 rfl (fun _ => ?_) (fun q => absurd q (by decide))
                refine wp_iload_n (pc := 14) dX5_climb_14 (by first | rfl | assumption | (repeat first | assumption | rfl | refine aG_n ?_ rfl rfl)) ?_
                refine wp_iload_n (pc := 15) dX5_climb_15 (by first | rfl | assumption | (repeat first | assumption | rfl | refine aG_n ?_ rfl rfl)) ?_
                refine wp_cS (pc := 16) dX5_climb_16 lk_5_13 rfl rfl rfl (c_X5_sum (aK_i ?_))
                refine wp_iretK (pc := 19) dX5_climb_19 rfl (by first | rfl | decide | assumption) ?_
                refine wp_istore (pc := 60) dX11_proves_60 (by decide) ?_
                refine wp_iload_n (pc := 62) dX11_proves_62 (by first | rfl | assumption | (repeat first | assumption | rfl | refine aG_n ?_ rfl rfl)) ?_
                refine wp_iconst (pc := 63) (v := 2) dX11_proves_63 (by decide) ?_
                refine wp_ishr (pc := 64) dX11_proves_64 ?_
                refine wp_iload (pc := 65) dX11_proves_65 (by first | rfl | assumption | (repeat first | assumption | rfl | refine aG_n ?_ rfl rfl)) ?_
                refine wp_iload (pc := 67) dX11_proves_67 (by first | rfl | assumption | (repeat first | assumption | rfl | refine aG_n ?_ rfl rfl)) ?_
                refine wp_cS (pc := 69) dX11_proves_69 lk_11_358 rfl rfl rfl ?_
                refine wp_iload_n (pc := 0) dX5_climb_0 (by first | rfl | assumption | (repeat first | assumption | rfl | refine aG_n ?_ rfl rfl)) ?_
                refine wp_iconst (pc := 1) (v := 1) dX5_climb_1 (by decide) ?_
                refine wp_iand (pc := 2) dX5_climb_2 ?_
                refine wp_if_ne (pc := 3) (tgt := 14) dX5_climb_3 rfl (fun q => absurd q (by decide)) (fun _ => ?_)
                refine wp_iload_n (pc := 6) dX5_climb_6 (by first | rfl | assumption | (repeat first | assumption | rfl | refine aG_n ?_ rfl rfl)) ?_
                refine wp_iload_n (pc := 7) dX5_climb_7 (by first | rfl | assumption | (repeat first | assumption | rfl | refine aG_n ?_ rfl rfl)) ?_
                refine wp_cS (pc := 8) dX5_climb_8 lk_5_13 rfl rfl rfl (c_X5_sum (aK_i ?_))
                refine wp_goto (pc := 11) (tgt := 19) dX5_climb_11 rfl ?_
                refine wp_iretK (pc := 19) dX5_climb_19 rfl (by first | rfl | decide | assumption) ?_
                refine wp_istore (pc := 72) dX11_proves_72 (by decide) ?_
                refine wp_iload (pc := 74) dX11_proves_74 (by first | rfl | assumption | (repeat first | assumption | rfl | refine aG_n ?_ rfl rfl)) ?_
                refine wp_aload_n (pc := 76) dX11_proves_76 (by first | rfl | assumption | (repeat first | assumption | rfl | refine aG_n ?_ rfl rfl)) ?_
                refine wp_getR (pc := 77) dX11_proves_77 fl_11_60 (by first | rfl | assumption | exact sh_house (by omega) | exact sh_wish (by omega) | exact sh_wor (by omega) | exact sh_bar (by omega) | exact sh_term (by omega) | exact sh_sheet (by omega) | exact sh_items (by omega) | exact sh_sums (by omega)) rfl ?_
                refine wp_getR (pc := 80) dX11_proves_80 fl_11_349 (by first | rfl | assumption | exact sh_house (by omega) | exact sh_wish (by omega) | exact sh_wor (by omega) | exact sh_bar (by omega) | exact sh_term (by omega) | exact sh_sheet (by omega) | exact sh_items (by omega) | exact sh_sums (by omega)) rfl ?_
                refine wp_iconst (pc := 83) (v := 1) dX11_proves_83 (by decide) ?_
                refine wp_ialdC (pc := 84) (j := 1) dX11_proves_84 (by first | rfl | assumption | exact sh_house (by omega) | exact sh_wish (by omega) | exact sh_wor (by omega) | exact sh_bar (by omega) | exact sh_term (by omega) | exact sh_sheet (by omega) | exact sh_items (by omega) | exact sh_sums (by omega)) (by decide) (by decide) ?_
                refine wp_icmp_ne (pc := 85) (tgt := 92) dX11_proves_85 rfl (fun _ => ?_) (fun q => absurd q c5)
                refine wp_iconst (pc := 92) (v := 0) dX11_proves_92 (by decide) ?_
                refine wp_cS (pc := 93) dX11_proves_93 lk_11_148 rfl rfl rfl ?_
                refine wp_iload_n (pc := 0) dX11_oneIf_0 (by first | rfl | assumption | (repeat first | assumption | rfl | refine aG_n ?_ rfl rfl)) ?_
                refine wp_if_eq (pc := 1) (tgt := 8) dX11_oneIf_1 rfl (fun _ => ?_) (fun q => absurd q (by decide))
                refine wp_iconst (pc := 8) (v := 0) dX11_oneIf_8 (by decide) ?_
                refine wp_iretK (pc := 9) dX11_oneIf_9 rfl (by first | rfl | decide | assumption) ?_
                refine wp_ireturn (pc := 96) dX11_proves_96 rfl (by first | rfl | decide | assumption) ?_
                refine k _ _ (fun Q' k' => ?_)
                refine wp_iload_n (pc := 0) dX12_proves_0 (by first | rfl | assumption | (repeat first | assumption | rfl | refine aG_n ?_ rfl rfl)) ?_
                refine wp_i2l (pc := 1) dX12_proves_1 ?_
                refine wp_lconst (pc := 2) (v := 0) dX12_proves_2 (by decide) ?_
                refine wp_ldc2 (pc := 3) dX12_proves_3 cl_12_347 ?_
                refine wp_cS (pc := 6) dX12_proves_6 lk_12_133 rfl rfl rfl (c_X12_in (fun _ => aK_i ?_) (fun q => absurd (by rw [w_int]; exact c0) q))
                refine wp_if_eq (pc := 9) (tgt := 42) dX12_proves_9 rfl (fun q => absurd q (by decide)) (fun _ => ?_)
                refine wp_iload_n (pc := 12) dX12_proves_12 (by first | rfl | assumption | (repeat first | assumption | rfl | refine aG_n ?_ rfl rfl)) ?_
                refine wp_cS (pc := 13) dX12_proves_13 lk_12_354 rfl rfl rfl (c_X12_isSum (fun _ => aK_i ?_) (fun q => absurd c1 q))
                refine wp_if_eq (pc := 16) (tgt := 42) dX12_proves_16 rfl (fun q => absurd q (by decide)) (fun _ => ?_)
                refine wp_iload_n (pc := 19) dX12_proves_19 (by first | rfl | assumption | (repeat first | assumption | rfl | refine aG_n ?_ rfl rfl)) ?_
                refine wp_cS (pc := 20) dX12_proves_20 lk_12_354 rfl rfl rfl (c_X12_isSum (fun _ => aK_i ?_) (fun q => absurd c2 q))
                refine wp_if_eq (pc := 23) (tgt := 42) dX12_proves_23 rfl (fun q => absurd q (by decide)) (fun _ => ?_)
                refine wp_iload (pc := 26) dX12_proves_26 (by first | rfl | assumption | (repeat first | assumption | rfl | refine aG_n ?_ rfl rfl)) ?_
                refine wp_cS (pc := 28) dX12_proves_28 lk_12_354 rfl rfl rfl (c_X12_isSum (fun _ => aK_i ?_) (fun q => absurd c3 q))
                refine wp_if_eq (pc := 31) (tgt := 42) dX12_proves_31 rfl (fun q => absurd q (by decide)) (fun _ => ?_)
                refine wp_iload (pc := 34) dX12_proves_34 (by first | rfl | assumption | (repeat first | assumption | rfl | refine aG_n ?_ rfl rfl)) ?_
                refine wp_cS (pc := 36) dX12_proves_36 lk_12_354 rfl rfl rfl (c_X12_isSum (fun _ => aK_i ?_) (fun q => absurd c4 q))
                refine wp_if_ne (pc := 39) (tgt := 44) dX12_proves_39 rfl (fun _ => ?_) (fun q => absurd q (by decide))
                refine wp_iload_n (pc := 44) dX12_proves_44 (by first | rfl | assumption | (repeat first | assumption | rfl | refine aG_n ?_ rfl rfl)) ?_
                refine wp_iload_n (pc := 45) dX12_proves_45 (by first | rfl | assumption | (repeat first | assumption | rfl | refine aG_n ?_ rfl rfl)) ?_
                refine wp_iload_n (pc := 46) dX12_proves_46 (by first | rfl | assumption | (repeat first | assumption | rfl | refine aG_n ?_ rfl rfl)) ?_
                refine wp_cS (pc := 47) dX12_proves_47 lk_12_357 rfl rfl rfl ?_
                refine wp_iload_n (pc := 0) dX12_sumBeside_0 (by first | rfl | assumption | (repeat first | assumption | rfl | refine aG_n ?_ rfl rfl)) ?_
                refine wp_iconst (pc := 1) (v := 2) dX12_sumBeside_1 (by decide) ?_
                refine wp_irem (pc := 2) dX12_sumBeside_2 (by decide) ?_
                refine wp_if_ne (pc := 3) (tgt := 14) dX12_sumBeside_3 rfl (fun q => absurd q (by decide)) (fun _ => ?_)
                refine wp_iload_n (pc := 6) dX12_sumBeside_6 (by first | rfl | assumption | (repeat first | assumption | rfl | refine aG_n ?_ rfl rfl)) ?_
                refine wp_iload_n (pc := 7) dX12_sumBeside_7 (by first | rfl | assumption | (repeat first | assumption | rfl | refine aG_n ?_ rfl rfl)) ?_
                refine wp_cS (pc := 8) dX12_sumBeside_8 lk_12_344 rfl rfl rfl (c_X12_sumOf (aK_i ?_))
                refine wp_goto (pc := 11) (tgt := 19) dX12_sumBeside_11 rfl ?_
                refine wp_iretK (pc := 19) dX12_sumBeside_19 rfl (by first | rfl | decide | assumption) ?_
                refine wp_istore (pc := 50) dX12_proves_50 (by decide) ?_
                refine wp_iload_n (pc := 52) dX12_proves_52 (by first | rfl | assumption | (repeat first | assumption | rfl | refine aG_n ?_ rfl rfl)) ?_
                refine wp_iconst (pc := 53) (v := 2) dX12_proves_53 (by decide) ?_
                refine wp_idiv (pc := 54) dX12_proves_54 (by decide) ?_
                refine wp_iload (pc := 55) dX12_proves_55 (by first | rfl | assumption | (repeat first | assumption | rfl | refine aG_n ?_ rfl rfl)) ?_
                refine wp_iload (pc := 57) dX12_proves_57 (by first | rfl | assumption | (repeat first | assumption | rfl | refine aG_n ?_ rfl rfl)) ?_
                refine wp_cS (pc := 59) dX12_proves_59 lk_12_357 rfl rfl rfl ?_
                refine wp_iload_n (pc := 0) dX12_sumBeside_0 (by first | rfl | assumption | (repeat first | assumption | rfl | refine aG_n ?_ rfl rfl)) ?_
                refine wp_iconst (pc := 1) (v := 2) dX12_sumBeside_1 (by decide) ?_
                refine wp_irem (pc := 2) dX12_sumBeside_2 (by decide) ?_
                refine wp_if_ne (pc := 3) (tgt := 14) dX12_sumBeside_3 rfl (fun _ => ?_) (fun q => absurd q (by decide))
                refine wp_iload_n (pc := 14) dX12_sumBeside_14 (by first | rfl | assumption | (repeat first | assumption | rfl | refine aG_n ?_ rfl rfl)) ?_
                refine wp_iload_n (pc := 15) dX12_sumBeside_15 (by first | rfl | assumption | (repeat first | assumption | rfl | refine aG_n ?_ rfl rfl)) ?_
                refine wp_cS (pc := 16) dX12_sumBeside_16 lk_12_344 rfl rfl rfl (c_X12_sumOf (aK_i ?_))
                refine wp_iretK (pc := 19) dX12_sumBeside_19 rfl (by first | rfl | decide | assumption) ?_
                refine wp_istore (pc := 62) dX12_proves_62 (by decide) ?_
                refine wp_iload_n (pc := 64) dX12_proves_64 (by first | rfl | assumption | (repeat first | assumption | rfl | refine aG_n ?_ rfl rfl)) ?_
                refine wp_iconst (pc := 65) (v := 4) dX12_proves_65 (by decide) ?_
                refine wp_idiv (pc := 66) dX12_proves_66 (by decide) ?_
                refine wp_iload (pc := 67) dX12_proves_67 (by first | rfl | assumption | (repeat first | assumption | rfl | refine aG_n ?_ rfl rfl)) ?_
                refine wp_iload (pc := 69) dX12_proves_69 (by first | rfl | assumption | (repeat first | assumption | rfl | refine aG_n ?_ rfl rfl)) ?_
                refine wp_cS (pc := 71) dX12_proves_71 lk_12_357 rfl rfl rfl ?_
                refine wp_iload_n (pc := 0) dX12_sumBeside_0 (by first | rfl | assumption | (repeat first | assumption | rfl | refine aG_n ?_ rfl rfl)) ?_
                refine wp_iconst (pc := 1) (v := 2) dX12_sumBeside_1 (by decide) ?_
                refine wp_irem (pc := 2) dX12_sumBeside_2 (by decide) ?_
                refine wp_if_ne (pc := 3) (tgt := 14) dX12_sumBeside_3 rfl (fun q => absurd q (by decide)) (fun _ => ?_)
                refine wp_iload_n (pc := 6) dX12_sumBeside_6 (by first | rfl | assumption | (repeat first | assumption | rfl | refine aG_n ?_ rfl rfl)) ?_
                refine wp_iload_n (pc := 7) dX12_sumBeside_7 (by first | rfl | assumption | (repeat first | assumption | rfl | refine aG_n ?_ rfl rfl)) ?_
                refine wp_cS (pc := 8) dX12_sumBeside_8 lk_12_344 rfl rfl rfl (c_X12_sumOf (aK_i ?_))
                refine wp_goto (pc := 11) (tgt := 19) dX12_sumBeside_11 rfl ?_
                refine wp_iretK (pc := 19) dX12_sumBeside_19 rfl (by first | rfl | decide | assumption) ?_
                refine wp_aload_n (pc := 74) dX12_proves_74 (by first | rfl | assumption | (repeat first | assumption | rfl | refine aG_n ?_ rfl rfl)) ?_
                refine wp_iconst (pc := 75) (v := 0) dX12_proves_75 (by decide) ?_
                refine wp_bipush (pc := 76) (v := 8) dX12_proves_76 (by decide) ?_
                refine wp_cV (pc := 78) dX12_proves_78 lk_12_349 rfl (by decide) rfl (by first | rfl | assumption | exact sh_house (by omega) | exact sh_wish (by omega) | exact sh_wor (by omega) | exact sh_bar (by omega) | exact sh_term (by omega) | exact sh_sheet (by omega) | exact sh_items (by omega) | exact sh_sums (by omega)) rfl rfl ?_
                refine wp_aload_n (pc := 0) dX12_sumFrom_0 (by first | rfl | assumption | (repeat first | assumption | rfl | refine aG_n ?_ rfl rfl)) ?_
                refine wp_getR (pc := 1) dX12_sumFrom_1 fl_12_119 (by first | rfl | assumption | exact sh_house (by omega) | exact sh_wish (by omega) | exact sh_wor (by omega) | exact sh_bar (by omega) | exact sh_term (by omega) | exact sh_sheet (by omega) | exact sh_items (by omega) | exact sh_sums (by omega)) rfl ?_
                refine wp_iload_n (pc := 4) dX12_sumFrom_4 (by first | rfl | assumption | (repeat first | assumption | rfl | refine aG_n ?_ rfl rfl)) ?_
                refine wp_ialdC (pc := 5) (j := 0) dX12_sumFrom_5 (by first | rfl | assumption | exact sh_house (by omega) | exact sh_wish (by omega) | exact sh_wor (by omega) | exact sh_bar (by omega) | exact sh_term (by omega) | exact sh_sheet (by omega) | exact sh_items (by omega) | exact sh_sums (by omega)) (by decide) (by decide) ?_
                refine wp_aload_n (pc := 6) dX12_sumFrom_6 (by first | rfl | assumption | (repeat first | assumption | rfl | refine aG_n ?_ rfl rfl)) ?_
                refine wp_getR (pc := 7) dX12_sumFrom_7 fl_12_119 (by first | rfl | assumption | exact sh_house (by omega) | exact sh_wish (by omega) | exact sh_wor (by omega) | exact sh_bar (by omega) | exact sh_term (by omega) | exact sh_sheet (by omega) | exact sh_items (by omega) | exact sh_sums (by omega)) rfl ?_
                refine wp_iload_n (pc := 10) dX12_sumFrom_10 (by first | rfl | assumption | (repeat first | assumption | rfl | refine aG_n ?_ rfl rfl)) ?_
                refine wp_iconst (pc := 11) (v := 1) dX12_sumFrom_11 (by decide) ?_
                refine wp_iadd (pc := 12) dX12_sumFrom_12 ?_
                refine wp_bipush (pc := 13) (v := 8) dX12_sumFrom_13 (by decide) ?_
                refine wp_irem (pc := 15) dX12_sumFrom_15 (by decide) ?_
                refine wp_ialdC (pc := 16) (j := 1) dX12_sumFrom_16 (by first | rfl | assumption | exact sh_house (by omega) | exact sh_wish (by omega) | exact sh_wor (by omega) | exact sh_bar (by omega) | exact sh_term (by omega) | exact sh_sheet (by omega) | exact sh_items (by omega) | exact sh_sums (by omega)) (by decide) (by decide) ?_
                refine wp_cS (pc := 17) dX12_sumFrom_17 lk_12_344 rfl rfl rfl (c_X12_sumOf (aK_i ?_))
                refine wp_istore_n (pc := 20) dX12_sumFrom_20 (by decide) ?_
                refine wp_iload_n (pc := 21) dX12_sumFrom_21 (by first | rfl | assumption | (repeat first | assumption | rfl | refine aG_n ?_ rfl rfl)) ?_
                refine wp_iconst (pc := 22) (v := 4) dX12_sumFrom_22 (by decide) ?_
                refine wp_icmp_ge (pc := 23) (tgt := 42) dX12_sumFrom_23 rfl (fun _ => ?_) (fun q => absurd q (by decide))
                refine wp_iload_n (pc := 42) dX12_sumFrom_42 (by first | rfl | assumption | (repeat first | assumption | rfl | refine aG_n ?_ rfl rfl)) ?_
                refine wp_aload_n (pc := 43) dX12_sumFrom_43 (by first | rfl | assumption | (repeat first | assumption | rfl | refine aG_n ?_ rfl rfl)) ?_
                refine wp_getR (pc := 44) dX12_sumFrom_44 fl_12_119 (by first | rfl | assumption | exact sh_house (by omega) | exact sh_wish (by omega) | exact sh_wor (by omega) | exact sh_bar (by omega) | exact sh_term (by omega) | exact sh_sheet (by omega) | exact sh_items (by omega) | exact sh_sums (by omega)) rfl ?_
                refine wp_iload_n (pc := 47) dX12_sumFrom_47 (by first | rfl | assumption | (repeat first | assumption | rfl | refine aG_n ?_ rfl rfl)) ?_
                refine wp_iconst (pc := 48) (v := 2) dX12_sumFrom_48 (by decide) ?_
                refine wp_iadd (pc := 49) dX12_sumFrom_49 ?_
                refine wp_ialdC (pc := 50) (j := 2) dX12_sumFrom_50 (by first | rfl | assumption | exact sh_house (by omega) | exact sh_wish (by omega) | exact sh_wor (by omega) | exact sh_bar (by omega) | exact sh_term (by omega) | exact sh_sheet (by omega) | exact sh_items (by omega) | exact sh_sums (by omega)) (by decide) (by decide) ?_
                refine wp_aload_n (pc := 51) dX12_sumFrom_51 (by first | rfl | assumption | (repeat first | assumption | rfl | refine aG_n ?_ rfl rfl)) ?_
                refine wp_getR (pc := 52) dX12_sumFrom_52 fl_12_119 (by first | rfl | assumption | exact sh_house (by omega) | exact sh_wish (by omega) | exact sh_wor (by omega) | exact sh_bar (by omega) | exact sh_term (by omega) | exact sh_sheet (by omega) | exact sh_items (by omega) | exact sh_sums (by omega)) rfl ?_
                refine wp_iload_n (pc := 55) dX12_sumFrom_55 (by first | rfl | assumption | (repeat first | assumption | rfl | refine aG_n ?_ rfl rfl)) ?_
                refine wp_iconst (pc := 56) (v := 3) dX12_sumFrom_56 (by decide) ?_
                refine wp_iadd (pc := 57) dX12_sumFrom_57 ?_
                refine wp_ialdC (pc := 58) (j := 3) dX12_sumFrom_58 (by first | rfl | assumption | exact sh_house (by omega) | exact sh_wish (by omega) | exact sh_wor (by omega) | exact sh_bar (by omega) | exact sh_term (by omega) | exact sh_sheet (by omega) | exact sh_items (by omega) | exact sh_sums (by omega)) (by decide) (by decide) ?_
                refine wp_cS (pc := 59) dX12_sumFrom_59 lk_12_344 rfl rfl rfl (c_X12_sumOf (aK_i ?_))
                refine wp_cS (pc := 62) dX12_sumFrom_62 lk_12_344 rfl rfl rfl (c_X12_sumOf (aK_i ?_))
                refine wp_istore (pc := 65) dX12_sumFrom_65 (by decide) ?_
                refine wp_iload_n (pc := 67) dX12_sumFrom_67 (by first | rfl | assumption | (repeat first | assumption | rfl | refine aG_n ?_ rfl rfl)) ?_
                refine wp_iconst (pc := 68) (v := 4) dX12_sumFrom_68 (by decide) ?_
                refine wp_icmp_ne (pc := 69) (tgt := 75) dX12_sumFrom_69 rfl (fun _ => ?_) (fun q => absurd q (by decide))
                refine wp_iload (pc := 75) dX12_sumFrom_75 (by first | rfl | assumption | (repeat first | assumption | rfl | refine aG_n ?_ rfl rfl)) ?_
                refine wp_aload_n (pc := 77) dX12_sumFrom_77 (by first | rfl | assumption | (repeat first | assumption | rfl | refine aG_n ?_ rfl rfl)) ?_
                refine wp_getR (pc := 78) dX12_sumFrom_78 fl_12_119 (by first | rfl | assumption | exact sh_house (by omega) | exact sh_wish (by omega) | exact sh_wor (by omega) | exact sh_bar (by omega) | exact sh_term (by omega) | exact sh_sheet (by omega) | exact sh_items (by omega) | exact sh_sums (by omega)) rfl ?_
                refine wp_iconst (pc := 81) (v := 4) dX12_sumFrom_81 (by decide) ?_
                refine wp_ialdC (pc := 82) (j := 4) dX12_sumFrom_82 (by first | rfl | assumption | exact sh_house (by omega) | exact sh_wish (by omega) | exact sh_wor (by omega) | exact sh_bar (by omega) | exact sh_term (by omega) | exact sh_sheet (by omega) | exact sh_items (by omega) | exact sh_sums (by omega)) (by decide) (by decide) ?_
                refine wp_aload_n (pc := 83) dX12_sumFrom_83 (by first | rfl | assumption | (repeat first | assumption | rfl | refine aG_n ?_ rfl rfl)) ?_
                refine wp_getR (pc := 84) dX12_sumFrom_84 fl_12_119 (by first | rfl | assumption | exact sh_house (by omega) | exact sh_wish (by omega) | exact sh_wor (by omega) | exact sh_bar (by omega) | exact sh_term (by omega) | exact sh_sheet (by omega) | exact sh_items (by omega) | exact sh_sums (by omega)) rfl ?_
                refine wp_iconst (pc := 87) (v := 5) dX12_sumFrom_87 (by decide) ?_
                refine wp_ialdC (pc := 88) (j := 5) dX12_sumFrom_88 (by first | rfl | assumption | exact sh_house (by omega) | exact sh_wish (by omega) | exact sh_wor (by omega) | exact sh_bar (by omega) | exact sh_term (by omega) | exact sh_sheet (by omega) | exact sh_items (by omega) | exact sh_sums (by omega)) (by decide) (by decide) ?_
                refine wp_cS (pc := 89) dX12_sumFrom_89 lk_12_344 rfl rfl rfl (c_X12_sumOf (aK_i ?_))
                refine wp_aload_n (pc := 92) dX12_sumFrom_92 (by first | rfl | assumption | (repeat first | assumption | rfl | refine aG_n ?_ rfl rfl)) ?_
                refine wp_getR (pc := 93) dX12_sumFrom_93 fl_12_119 (by first | rfl | assumption | exact sh_house (by omega) | exact sh_wish (by omega) | exact sh_wor (by omega) | exact sh_bar (by omega) | exact sh_term (by omega) | exact sh_sheet (by omega) | exact sh_items (by omega) | exact sh_sums (by omega)) rfl ?_
                refine wp_bipush (pc := 96) (v := 6) dX12_sumFrom_96 (by decide) ?_
                refine wp_ialdC (pc := 98) (j := 6) dX12_sumFrom_98 (by first | rfl | assumption | exact sh_house (by omega) | exact sh_wish (by omega) | exact sh_wor (by omega) | exact sh_bar (by omega) | exact sh_term (by omega) | exact sh_sheet (by omega) | exact sh_items (by omega) | exact sh_sums (by omega)) (by decide) (by decide) ?_
                refine wp_aload_n (pc := 99) dX12_sumFrom_99 (by first | rfl | assumption | (repeat first | assumption | rfl | refine aG_n ?_ rfl rfl)) ?_
                refine wp_getR (pc := 100) dX12_sumFrom_100 fl_12_119 (by first | rfl | assumption | exact sh_house (by omega) | exact sh_wish (by omega) | exact sh_wor (by omega) | exact sh_bar (by omega) | exact sh_term (by omega) | exact sh_sheet (by omega) | exact sh_items (by omega) | exact sh_sums (by omega)) rfl ?_
                refine wp_bipush (pc := 103) (v := 7) dX12_sumFrom_103 (by decide) ?_
                refine wp_ialdC (pc := 105) (j := 7) dX12_sumFrom_105 (by first | rfl | assumption | exact sh_house (by omega) | exact sh_wish (by omega) | exact sh_wor (by omega) | exact sh_bar (by omega) | exact sh_term (by omega) | exact sh_sheet (by omega) | exact sh_items (by omega) | exact sh_sums (by omega)) (by decide) (by decide) ?_
                refine wp_cS (pc := 106) dX12_sumFrom_106 lk_12_344 rfl rfl rfl (c_X12_sumOf (aK_i ?_))
                refine wp_cS (pc := 109) dX12_sumFrom_109 lk_12_344 rfl rfl rfl (c_X12_sumOf (aK_i ?_))
                refine wp_cS (pc := 112) dX12_sumFrom_112 lk_12_344 rfl rfl rfl (c_X12_sumOf (aK_i ?_))
                refine wp_iretK (pc := 115) dX12_sumFrom_115 rfl (by first | rfl | decide | assumption) ?_
                refine wp_icmp_ne (pc := 81) (tgt := 88) dX12_proves_81 rfl (fun _ => ?_) (fun q => absurd q (by rw [root_eq hR]; exact c5))
                refine wp_iconst (pc := 88) (v := 0) dX12_proves_88 (by decide) ?_
                refine wp_ireturn (pc := 89) dX12_proves_89 rfl (by first | rfl | decide | assumption) ?_
                exact k' _ hI
            | 3, _ =>
              by_cases c5 : sm2 (sm2 (y) (sm2 (x) (v))) (z) = μ.1 53 1
              · skip
                refine wp_iload_n (pc := 0) dX11_proves_0 (by first | rfl | assumption | (repeat first | assumption | rfl | refine aG_n ?_ rfl rfl)) ?_
                refine wp_iconst (pc := 1) (v := 0) dX11_proves_1 (by decide) ?_
                refine wp_bipush (pc := 2) (v := 7) dX11_proves_2 (by decide) ?_
                refine wp_cS (pc := 4) dX11_proves_4 lk_11_112 rfl rfl rfl (c_X11_isWithin (fun _ => aK_i ?_) (fun q => absurd c0 q))
                refine wp_if_eq (pc := 7) (tgt := 40) dX11_proves_7 rfl (fun q => absurd q (by decide)) (fun _ => ?_)
                refine wp_iload_n (pc := 10) dX11_proves_10 (by first | rfl | assumption | (repeat first | assumption | rfl | refine aG_n ?_ rfl rfl)) ?_
                refine wp_cS (pc := 11) dX11_proves_11 lk_11_355 rfl rfl rfl (c_X11_isSum (fun _ => aK_i ?_) (fun q => absurd c1 q))
                refine wp_if_eq (pc := 14) (tgt := 40) dX11_proves_14 rfl (fun q => absurd q (by decide)) (fun _ => ?_)
                refine wp_iload_n (pc := 17) dX11_proves_17 (by first | rfl | assumption | (repeat first | assumption | rfl | refine aG_n ?_ rfl rfl)) ?_
                refine wp_cS (pc := 18) dX11_proves_18 lk_11_355 rfl rfl rfl (c_X11_isSum (fun _ => aK_i ?_) (fun q => absurd c2 q))
                refine wp_if_eq (pc := 21) (tgt := 40) dX11_proves_21 rfl (fun q => absurd q (by decide)) (fun _ => ?_)
                refine wp_iload (pc := 24) dX11_proves_24 (by first | rfl | assumption | (repeat first | assumption | rfl | refine aG_n ?_ rfl rfl)) ?_
                refine wp_cS (pc := 26) dX11_proves_26 lk_11_355 rfl rfl rfl (c_X11_isSum (fun _ => aK_i ?_) (fun q => absurd c3 q))
                refine wp_if_eq (pc := 29) (tgt := 40) dX11_proves_29 rfl (fun q => absurd q (by decide)) (fun _ => ?_)
                refine wp_iload (pc := 32) dX11_proves_32 (by first | rfl | assumption | (repeat first | assumption | rfl | refine aG_n ?_ rfl rfl)) ?_
                refine wp_cS (pc := 34) dX11_proves_34 lk_11_355 rfl rfl rfl (c_X11_isSum (fun _ => aK_i ?_) (fun q => absurd c4 q))
                refine wp_if_ne (pc := 37) (tgt := 42) dX11_proves_37 rfl (fun _ => ?_) (fun q => absurd q (by decide))
                refine wp_iload_n (pc := 42) dX11_proves_42 (by first | rfl | assumption | (repeat first | assumption | rfl | refine aG_n ?_ rfl rfl)) ?_
                refine wp_iload_n (pc := 43) dX11_proves_43 (by first | rfl | assumption | (repeat first | assumption | rfl | refine aG_n ?_ rfl rfl)) ?_
                refine wp_iload_n (pc := 44) dX11_proves_44 (by first | rfl | assumption | (repeat first | assumption | rfl | refine aG_n ?_ rfl rfl)) ?_
                refine wp_cS (pc := 45) dX11_proves_45 lk_11_358 rfl rfl rfl ?_
                refine wp_iload_n (pc := 0) dX5_climb_0 (by first | rfl | assumption | (repeat first | assumption | rfl | refine aG_n ?_ rfl rfl)) ?_
                refine wp_iconst (pc := 1) (v := 1) dX5_climb_1 (by decide) ?_
                refine wp_iand (pc := 2) dX5_climb_2 ?_
                refine wp_if_ne (pc := 3) (tgt := 14) dX5_climb_3 rfl (fun _ => ?_) (fun q => absurd q (by decide))
                refine wp_iload_n (pc := 14) dX5_climb_14 (by first | rfl | assumption | (repeat first | assumption | rfl | refine aG_n ?_ rfl rfl)) ?_
                refine wp_iload_n (pc := 15) dX5_climb_15 (by first | rfl | assumption | (repeat first | assumption | rfl | refine aG_n ?_ rfl rfl)) ?_
                refine wp_cS (pc := 16) dX5_climb_16 lk_5_13 rfl rfl rfl (c_X5_sum (aK_i ?_))
                refine wp_iretK (pc := 19) dX5_climb_19 rfl (by first | rfl | decide | assumption) ?_
                refine wp_istore (pc := 48) dX11_proves_48 (by decide) ?_
                refine wp_iload_n (pc := 50) dX11_proves_50 (by first | rfl | assumption | (repeat first | assumption | rfl | refine aG_n ?_ rfl rfl)) ?_
                refine wp_iconst (pc := 51) (v := 1) dX11_proves_51 (by decide) ?_
                refine wp_ishr (pc := 52) dX11_proves_52 ?_
                refine wp_iload (pc := 53) dX11_proves_53 (by first | rfl | assumption | (repeat first | assumption | rfl | refine aG_n ?_ rfl rfl)) ?_
                refine wp_iload (pc := 55) dX11_proves_55 (by first | rfl | assumption | (repeat first | assumption | rfl | refine aG_n ?_ rfl rfl)) ?_
                refine wp_cS (pc := 57) dX11_proves_57 lk_11_358 rfl rfl rfl ?_
                refine wp_iload_n (pc := 0) dX5_climb_0 (by first | rfl | assumption | (repeat first | assumption | rfl | refine aG_n ?_ rfl rfl)) ?_
                refine wp_iconst (pc := 1) (v := 1) dX5_climb_1 (by decide) ?_
                refine wp_iand (pc := 2) dX5_climb_2 ?_
                refine wp_if_ne (pc := 3) (tgt := 14) dX5_climb_3 rfl (fun _ => ?_) (fun q => absurd q (by decide))
                refine wp_iload_n (pc := 14) dX5_climb_14 (by first | rfl | assumption | (repeat first | assumption | rfl | refine aG_n ?_ rfl rfl)) ?_
                refine wp_iload_n (pc := 15) dX5_climb_15 (by first | rfl | assumption | (repeat first | assumption | rfl | refine aG_n ?_ rfl rfl)) ?_
                refine wp_cS (pc := 16) dX5_climb_16 lk_5_13 rfl rfl rfl (c_X5_sum (aK_i ?_))
                refine wp_iretK (pc := 19) dX5_climb_19 rfl (by first | rfl | decide | assumption) ?_
                refine wp_istore (pc := 60) dX11_proves_60 (by decide) ?_
                refine wp_iload_n (pc := 62) dX11_proves_62 (by first | rfl | assumption | (repeat first | assumption | rfl | refine aG_n ?_ rfl rfl)) ?_
                refine wp_iconst (pc := 63) (v := 2) dX11_proves_63 (by decide) ?_
                refine wp_ishr (pc := 64) dX11_proves_64 ?_
                refine wp_iload (pc := 65) dX11_proves_65 (by first | rfl | assumption | (repeat first | assumption | rfl | refine aG_n ?_ rfl rfl)) ?_
                refine wp_iload (pc := 67) dX11_proves_67 (by first | rfl | assumption | (repeat first | assumption | rfl | refine aG_n ?_ rfl rfl)) ?_
                refine wp_cS (pc := 69) dX11_proves_69 lk_11_358 rfl rfl rfl ?_
                refine wp_iload_n (pc := 0) dX5_climb_0 (by first | rfl | assumption | (repeat first | assumption | rfl | refine aG_n ?_ rfl rfl)) ?_
                refine wp_iconst (pc := 1) (v := 1) dX5_climb_1 (by decide) ?_
                refine wp_iand (pc := 2) dX5_climb_2 ?_
                refine wp_if_ne (pc := 3) (tgt := 14) dX5_climb_3 rfl (fun q => absurd q (by decide)) (fun _ => ?_)
                refine wp_iload_n (pc := 6) dX5_climb_6 (by first | rfl | assumption | (repeat first | assumption | rfl | refine aG_n ?_ rfl rfl)) ?_
                refine wp_iload_n (pc := 7) dX5_climb_7 (by first | rfl | assumption | (repeat first | assumption | rfl | refine aG_n ?_ rfl rfl)) ?_
                refine wp_cS (pc := 8) dX5_climb_8 lk_5_13 rfl rfl rfl (c_X5_sum (aK_i ?_))
                refine wp_goto (pc := 11) (tgt := 19) dX5_climb_11 rfl ?_
                refine wp_iretK (pc := 19) dX5_climb_19 rfl (by first | rfl | decide | assumption) ?_
                refine wp_istore (pc := 72) dX11_proves_72 (by decide) ?_
                refine wp_iload (pc := 74) dX11_proves_74 (by first | rfl | assumption | (repeat first | assumption | rfl | refine aG_n ?_ rfl rfl)) ?_
                refine wp_aload_n (pc := 76) dX11_proves_76 (by first | rfl | assumption | (repeat first | assumption | rfl | refine aG_n ?_ rfl rfl)) ?_
                refine wp_getR (pc := 77) dX11_proves_77 fl_11_60 (by first | rfl | assumption | exact sh_house (by omega) | exact sh_wish (by omega) | exact sh_wor (by omega) | exact sh_bar (by omega) | exact sh_term (by omega) | exact sh_sheet (by omega) | exact sh_items (by omega) | exact sh_sums (by omega)) rfl ?_
                refine wp_getR (pc := 80) dX11_proves_80 fl_11_349 (by first | rfl | assumption | exact sh_house (by omega) | exact sh_wish (by omega) | exact sh_wor (by omega) | exact sh_bar (by omega) | exact sh_term (by omega) | exact sh_sheet (by omega) | exact sh_items (by omega) | exact sh_sums (by omega)) rfl ?_
                refine wp_iconst (pc := 83) (v := 1) dX11_proves_83 (by decide) ?_
                refine wp_ialdC (pc := 84) (j := 1) dX11_proves_84 (by first | rfl | assumption | exact sh_house (by omega) | exact sh_wish (by omega) | exact sh_wor (by omega) | exact sh_bar (by omega) | exact sh_term (by omega) | exact sh_sheet (by omega) | exact sh_items (by omega) | exact sh_sums (by omega)) (by decide) (by decide) ?_
                refine wp_icmp_ne (pc := 85) (tgt := 92) dX11_proves_85 rfl (fun q => absurd c5 q) (fun _ => ?_)
                refine wp_iconst (pc := 88) (v := 1) dX11_proves_88 (by decide) ?_
                refine wp_goto (pc := 89) (tgt := 93) dX11_proves_89 rfl ?_
                refine wp_cS (pc := 93) dX11_proves_93 lk_11_148 rfl rfl rfl ?_
                refine wp_iload_n (pc := 0) dX11_oneIf_0 (by first | rfl | assumption | (repeat first | assumption | rfl | refine aG_n ?_ rfl rfl)) ?_
                refine wp_if_eq (pc := 1) (tgt := 8) dX11_oneIf_1 rfl (fun q => absurd q (by decide)) (fun _ => ?_)
                refine wp_iconst (pc := 4) (v := 1) dX11_oneIf_4 (by decide) ?_
                refine wp_goto (pc := 5) (tgt := 9) dX11_oneIf_5 rfl ?_
                refine wp_iretK (pc := 9) dX11_oneIf_9 rfl (by first | rfl | decide | assumption) ?_
                refine wp_ireturn (pc := 96) dX11_proves_96 rfl (by first | rfl | decide | assumption) ?_
                refine k _ _ (fun Q' k' => ?_)
                refine wp_iload_n (pc := 0) dX12_proves_0 (by first | rfl | assumption | (repeat first | assumption | rfl | refine aG_n ?_ rfl rfl)) ?_
                refine wp_i2l (pc := 1) dX12_proves_1 ?_
                refine wp_lconst (pc := 2) (v := 0) dX12_proves_2 (by decide) ?_
                refine wp_ldc2 (pc := 3) dX12_proves_3 cl_12_347 ?_
                refine wp_cS (pc := 6) dX12_proves_6 lk_12_133 rfl rfl rfl (c_X12_in (fun _ => aK_i ?_) (fun q => absurd (by rw [w_int]; exact c0) q))
                refine wp_if_eq (pc := 9) (tgt := 42) dX12_proves_9 rfl (fun q => absurd q (by decide)) (fun _ => ?_)
                refine wp_iload_n (pc := 12) dX12_proves_12 (by first | rfl | assumption | (repeat first | assumption | rfl | refine aG_n ?_ rfl rfl)) ?_
                refine wp_cS (pc := 13) dX12_proves_13 lk_12_354 rfl rfl rfl (c_X12_isSum (fun _ => aK_i ?_) (fun q => absurd c1 q))
                refine wp_if_eq (pc := 16) (tgt := 42) dX12_proves_16 rfl (fun q => absurd q (by decide)) (fun _ => ?_)
                refine wp_iload_n (pc := 19) dX12_proves_19 (by first | rfl | assumption | (repeat first | assumption | rfl | refine aG_n ?_ rfl rfl)) ?_
                refine wp_cS (pc := 20) dX12_proves_20 lk_12_354 rfl rfl rfl (c_X12_isSum (fun _ => aK_i ?_) (fun q => absurd c2 q))
                refine wp_if_eq (pc := 23) (tgt := 42) dX12_proves_23 rfl (fun q => absurd q (by decide)) (fun _ => ?_)
                refine wp_iload (pc := 26) dX12_proves_26 (by first | rfl | assumption | (repeat first | assumption | rfl | refine aG_n ?_ rfl rfl)) ?_
                refine wp_cS (pc := 28) dX12_proves_28 lk_12_354 rfl rfl rfl (c_X12_isSum (fun _ => aK_i ?_) (fun q => absurd c3 q))
                refine wp_if_eq (pc := 31) (tgt := 42) dX12_proves_31 rfl (fun q => absurd q (by decide)) (fun _ => ?_)
                refine wp_iload (pc := 34) dX12_proves_34 (by first | rfl | assumption | (repeat first | assumption | rfl | refine aG_n ?_ rfl rfl)) ?_
                refine wp_cS (pc := 36) dX12_proves_36 lk_12_354 rfl rfl rfl (c_X12_isSum (fun _ => aK_i ?_) (fun q => absurd c4 q))
                refine wp_if_ne (pc := 39) (tgt := 44) dX12_proves_39 rfl (fun _ => ?_) (fun q => absurd q (by decide))
                refine wp_iload_n (pc := 44) dX12_proves_44 (by first | rfl | assumption | (repeat first | assumption | rfl | refine aG_n ?_ rfl rfl)) ?_
                refine wp_iload_n (pc := 45) dX12_proves_45 (by first | rfl | assumption | (repeat first | assumption | rfl | refine aG_n ?_ rfl rfl)) ?_
                refine wp_iload_n (pc := 46) dX12_proves_46 (by first | rfl | assumption | (repeat first | assumption | rfl | refine aG_n ?_ rfl rfl)) ?_
                refine wp_cS (pc := 47) dX12_proves_47 lk_12_357 rfl rfl rfl ?_
                refine wp_iload_n (pc := 0) dX12_sumBeside_0 (by first | rfl | assumption | (repeat first | assumption | rfl | refine aG_n ?_ rfl rfl)) ?_
                refine wp_iconst (pc := 1) (v := 2) dX12_sumBeside_1 (by decide) ?_
                refine wp_irem (pc := 2) dX12_sumBeside_2 (by decide) ?_
                refine wp_if_ne (pc := 3) (tgt := 14) dX12_sumBeside_3 rfl (fun _ => ?_) (fun q => absurd q (by decide))
                refine wp_iload_n (pc := 14) dX12_sumBeside_14 (by first | rfl | assumption | (repeat first | assumption | rfl | refine aG_n ?_ rfl rfl)) ?_
                refine wp_iload_n (pc := 15) dX12_sumBeside_15 (by first | rfl | assumption | (repeat first | assumption | rfl | refine aG_n ?_ rfl rfl)) ?_
                refine wp_cS (pc := 16) dX12_sumBeside_16 lk_12_344 rfl rfl rfl (c_X12_sumOf (aK_i ?_))
                refine wp_iretK (pc := 19) dX12_sumBeside_19 rfl (by first | rfl | decide | assumption) ?_
                refine wp_istore (pc := 50) dX12_proves_50 (by decide) ?_
                refine wp_iload_n (pc := 52) dX12_proves_52 (by first | rfl | assumption | (repeat first | assumption | rfl | refine aG_n ?_ rfl rfl)) ?_
                refine wp_iconst (pc := 53) (v := 2) dX12_proves_53 (by decide) ?_
                refine wp_idiv (pc := 54) dX12_proves_54 (by decide) ?_
                refine wp_iload (pc := 55) dX12_proves_55 (by first | rfl | assumption | (repeat first | assumption | rfl | refine aG_n ?_ rfl rfl)) ?_
                refine wp_iload (pc := 57) dX12_proves_57 (by first | rfl | assumption | (repeat first | assumption | rfl | refine aG_n ?_ rfl rfl)) ?_
                refine wp_cS (pc := 59) dX12_proves_59 lk_12_357 rfl rfl rfl ?_
                refine wp_iload_n (pc := 0) dX12_sumBeside_0 (by first | rfl | assumption | (repeat first | assumption | rfl | refine aG_n ?_ rfl rfl)) ?_
                refine wp_iconst (pc := 1) (v := 2) dX12_sumBeside_1 (by decide) ?_
                refine wp_irem (pc := 2) dX12_sumBeside_2 (by decide) ?_
                refine wp_if_ne (pc := 3) (tgt := 14) dX12_sumBeside_3 rfl (fun _ => ?_) (fun q => absurd q (by decide))
                refine wp_iload_n (pc := 14) dX12_sumBeside_14 (by first | rfl | assumption | (repeat first | assumption | rfl | refine aG_n ?_ rfl rfl)) ?_
                refine wp_iload_n (pc := 15) dX12_sumBeside_15 (by first | rfl | assumption | (repeat first | assumption | rfl | refine aG_n ?_ rfl rfl)) ?_
                refine wp_cS (pc := 16) dX12_sumBeside_16 lk_12_344 rfl rfl rfl (c_X12_sumOf (aK_i ?_))
                refine wp_iretK (pc := 19) dX12_sumBeside_19 rfl (by first | rfl | decide | assumption) ?_
                refine wp_istore (pc := 62) dX12_proves_62 (by decide) ?_
                refine wp_iload_n (pc := 64) dX12_proves_64 (by first | rfl | assumption | (repeat first | assumption | rfl | refine aG_n ?_ rfl rfl)) ?_
                refine wp_iconst (pc := 65) (v := 4) dX12_proves_65 (by decide) ?_
                refine wp_idiv (pc := 66) dX12_proves_66 (by decide) ?_
                refine wp_iload (pc := 67) dX12_proves_67 (by first | rfl | assumption | (repeat first | assumption | rfl | refine aG_n ?_ rfl rfl)) ?_
                refine wp_iload (pc := 69) dX12_proves_69 (by first | rfl | assumption | (repeat first | assumption | rfl | refine aG_n ?_ rfl rfl)) ?_
                refine wp_cS (pc := 71) dX12_proves_71 lk_12_357 rfl rfl rfl ?_
                refine wp_iload_n (pc := 0) dX12_sumBeside_0 (by first | rfl | assumption | (repeat first | assumption | rfl | refine aG_n ?_ rfl rfl)) ?_
                refine wp_iconst (pc := 1) (v := 2) dX12_sumBeside_1 (by decide) ?_
                refine wp_irem (pc := 2) dX12_sumBeside_2 (by decide) ?_
                refine wp_if_ne (pc := 3) (tgt := 14) dX12_sumBeside_3 rfl (fun q => absurd q (by decide)) (fun _ => ?_)
                refine wp_iload_n (pc := 6) dX12_sumBeside_6 (by first | rfl | assumption | (repeat first | assumption | rfl | refine aG_n ?_ rfl rfl)) ?_
                refine wp_iload_n (pc := 7) dX12_sumBeside_7 (by first | rfl | assumption | (repeat first | assumption | rfl | refine aG_n ?_ rfl rfl)) ?_
                refine wp_cS (pc := 8) dX12_sumBeside_8 lk_12_344 rfl rfl rfl (c_X12_sumOf (aK_i ?_))
                refine wp_goto (pc := 11) (tgt := 19) dX12_sumBeside_11 rfl ?_
                refine wp_iretK (pc := 19) dX12_sumBeside_19 rfl (by first | rfl | decide | assumption) ?_
                refine wp_aload_n (pc := 74) dX12_proves_74 (by first | rfl | assumption | (repeat first | assumption | rfl | refine aG_n ?_ rfl rfl)) ?_
                refine wp_iconst (pc := 75) (v := 0) dX12_proves_75 (by decide) ?_
                refine wp_bipush (pc := 76) (v := 8) dX12_proves_76 (by decide) ?_
                refine wp_cV (pc := 78) dX12_proves_78 lk_12_349 rfl (by decide) rfl (by first | rfl | assumption | exact sh_house (by omega) | exact sh_wish (by omega) | exact sh_wor (by omega) | exact sh_bar (by omega) | exact sh_term (by omega) | exact sh_sheet (by omega) | exact sh_items (by omega) | exact sh_sums (by omega)) rfl rfl ?_
                refine wp_aload_n (pc := 0) dX12_sumFrom_0 (by first | rfl | assumption | (repeat first | assumption | rfl | refine aG_n ?_ rfl rfl)) ?_
                refine wp_getR (pc := 1) dX12_sumFrom_1 fl_12_119 (by first | rfl | assumption | exact sh_house (by omega) | exact sh_wish (by omega) | exact sh_wor (by omega) | exact sh_bar (by omega) | exact sh_term (by omega) | exact sh_sheet (by omega) | exact sh_items (by omega) | exact sh_sums (by omega)) rfl ?_
                refine wp_iload_n (pc := 4) dX12_sumFrom_4 (by first | rfl | assumption | (repeat first | assumption | rfl | refine aG_n ?_ rfl rfl)) ?_
                refine wp_ialdC (pc := 5) (j := 0) dX12_sumFrom_5 (by first | rfl | assumption | exact sh_house (by omega) | exact sh_wish (by omega) | exact sh_wor (by omega) | exact sh_bar (by omega) | exact sh_term (by omega) | exact sh_sheet (by omega) | exact sh_items (by omega) | exact sh_sums (by omega)) (by decide) (by decide) ?_
                refine wp_aload_n (pc := 6) dX12_sumFrom_6 (by first | rfl | assumption | (repeat first | assumption | rfl | refine aG_n ?_ rfl rfl)) ?_
                refine wp_getR (pc := 7) dX12_sumFrom_7 fl_12_119 (by first | rfl | assumption | exact sh_house (by omega) | exact sh_wish (by omega) | exact sh_wor (by omega) | exact sh_bar (by omega) | exact sh_term (by omega) | exact sh_sheet (by omega) | exact sh_items (by omega) | exact sh_sums (by omega)) rfl ?_
                refine wp_iload_n (pc := 10) dX12_sumFrom_10 (by first | rfl | assumption | (repeat first | assumption | rfl | refine aG_n ?_ rfl rfl)) ?_
                refine wp_iconst (pc := 11) (v := 1) dX12_sumFrom_11 (by decide) ?_
                refine wp_iadd (pc := 12) dX12_sumFrom_12 ?_
                refine wp_bipush (pc := 13) (v := 8) dX12_sumFrom_13 (by decide) ?_
                refine wp_irem (pc := 15) dX12_sumFrom_15 (by decide) ?_
                refine wp_ialdC (pc := 16) (j := 1) dX12_sumFrom_16 (by first | rfl | assumption | exact sh_house (by omega) | exact sh_wish (by omega) | exact sh_wor (by omega) | exact sh_bar (by omega) | exact sh_term (by omega) | exact sh_sheet (by omega) | exact sh_items (by omega) | exact sh_sums (by omega)) (by decide) (by decide) ?_
                refine wp_cS (pc := 17) dX12_sumFrom_17 lk_12_344 rfl rfl rfl (c_X12_sumOf (aK_i ?_))
                refine wp_istore_n (pc := 20) dX12_sumFrom_20 (by decide) ?_
                refine wp_iload_n (pc := 21) dX12_sumFrom_21 (by first | rfl | assumption | (repeat first | assumption | rfl | refine aG_n ?_ rfl rfl)) ?_
                refine wp_iconst (pc := 22) (v := 4) dX12_sumFrom_22 (by decide) ?_
                refine wp_icmp_ge (pc := 23) (tgt := 42) dX12_sumFrom_23 rfl (fun _ => ?_) (fun q => absurd q (by decide))
                refine wp_iload_n (pc := 42) dX12_sumFrom_42 (by first | rfl | assumption | (repeat first | assumption | rfl | refine aG_n ?_ rfl rfl)) ?_
                refine wp_aload_n (pc := 43) dX12_sumFrom_43 (by first | rfl | assumption | (repeat first | assumption | rfl | refine aG_n ?_ rfl rfl)) ?_
                refine wp_getR (pc := 44) dX12_sumFrom_44 fl_12_119 (by first | rfl | assumption | exact sh_house (by omega) | exact sh_wish (by omega) | exact sh_wor (by omega) | exact sh_bar (by omega) | exact sh_term (by omega) | exact sh_sheet (by omega) | exact sh_items (by omega) | exact sh_sums (by omega)) rfl ?_
                refine wp_iload_n (pc := 47) dX12_sumFrom_47 (by first | rfl | assumption | (repeat first | assumption | rfl | refine aG_n ?_ rfl rfl)) ?_
                refine wp_iconst (pc := 48) (v := 2) dX12_sumFrom_48 (by decide) ?_
                refine wp_iadd (pc := 49) dX12_sumFrom_49 ?_
                refine wp_ialdC (pc := 50) (j := 2) dX12_sumFrom_50 (by first | rfl | assumption | exact sh_house (by omega) | exact sh_wish (by omega) | exact sh_wor (by omega) | exact sh_bar (by omega) | exact sh_term (by omega) | exact sh_sheet (by omega) | exact sh_items (by omega) | exact sh_sums (by omega)) (by decide) (by decide) ?_
                refine wp_aload_n (pc := 51) dX12_sumFrom_51 (by first | rfl | assumption | (repeat first | assumption | rfl | refine aG_n ?_ rfl rfl)) ?_
                refine wp_getR (pc := 52) dX12_sumFrom_52 fl_12_119 (by first | rfl | assumption | exact sh_house (by omega) | exact sh_wish (by omega) | exact sh_wor (by omega) | exact sh_bar (by omega) | exact sh_term (by omega) | exact sh_sheet (by omega) | exact sh_items (by omega) | exact sh_sums (by omega)) rfl ?_
                refine wp_iload_n (pc := 55) dX12_sumFrom_55 (by first | rfl | assumption | (repeat first | assumption | rfl | refine aG_n ?_ rfl rfl)) ?_
                refine wp_iconst (pc := 56) (v := 3) dX12_sumFrom_56 (by decide) ?_
                refine wp_iadd (pc := 57) dX12_sumFrom_57 ?_
                refine wp_ialdC (pc := 58) (j := 3) dX12_sumFrom_58 (by first | rfl | assumption | exact sh_house (by omega) | exact sh_wish (by omega) | exact sh_wor (by omega) | exact sh_bar (by omega) | exact sh_term (by omega) | exact sh_sheet (by omega) | exact sh_items (by omega) | exact sh_sums (by omega)) (by decide) (by decide) ?_
                refine wp_cS (pc := 59) dX12_sumFrom_59 lk_12_344 rfl rfl rfl (c_X12_sumOf (aK_i ?_))
                refine wp_cS (pc := 62) dX12_sumFrom_62 lk_12_344 rfl rfl rfl (c_X12_sumOf (aK_i ?_))
                refine wp_istore (pc := 65) dX12_sumFrom_65 (by decide) ?_
                refine wp_iload_n (pc := 67) dX12_sumFrom_67 (by first | rfl | assumption | (repeat first | assumption | rfl | refine aG_n ?_ rfl rfl)) ?_
                refine wp_iconst (pc := 68) (v := 4) dX12_sumFrom_68 (by decide) ?_
                refine wp_icmp_ne (pc := 69) (tgt := 75) dX12_sumFrom_69 rfl (fun _ => ?_) (fun q => absurd q (by decide))
                refine wp_iload (pc := 75) dX12_sumFrom_75 (by first | rfl | assumption | (repeat first | assumption | rfl | refine aG_n ?_ rfl rfl)) ?_
                refine wp_aload_n (pc := 77) dX12_sumFrom_77 (by first | rfl | assumption | (repeat first | assumption | rfl | refine aG_n ?_ rfl rfl)) ?_
                refine wp_getR (pc := 78) dX12_sumFrom_78 fl_12_119 (by first | rfl | assumption | exact sh_house (by omega) | exact sh_wish (by omega) | exact sh_wor (by omega) | exact sh_bar (by omega) | exact sh_term (by omega) | exact sh_sheet (by omega) | exact sh_items (by omega) | exact sh_sums (by omega)) rfl ?_
                refine wp_iconst (pc := 81) (v := 4) dX12_sumFrom_81 (by decide) ?_
                refine wp_ialdC (pc := 82) (j := 4) dX12_sumFrom_82 (by first | rfl | assumption | exact sh_house (by omega) | exact sh_wish (by omega) | exact sh_wor (by omega) | exact sh_bar (by omega) | exact sh_term (by omega) | exact sh_sheet (by omega) | exact sh_items (by omega) | exact sh_sums (by omega)) (by decide) (by decide) ?_
                refine wp_aload_n (pc := 83) dX12_sumFrom_83 (by first | rfl | assumption | (repeat first | assumption | rfl | refine aG_n ?_ rfl rfl)) ?_
                refine wp_getR (pc := 84) dX12_sumFrom_84 fl_12_119 (by first | rfl | assumption | exact sh_house (by omega) | exact sh_wish (by omega) | exact sh_wor (by omega) | exact sh_bar (by omega) | exact sh_term (by omega) | exact sh_sheet (by omega) | exact sh_items (by omega) | exact sh_sums (by omega)) rfl ?_
                refine wp_iconst (pc := 87) (v := 5) dX12_sumFrom_87 (by decide) ?_
                refine wp_ialdC (pc := 88) (j := 5) dX12_sumFrom_88 (by first | rfl | assumption | exact sh_house (by omega) | exact sh_wish (by omega) | exact sh_wor (by omega) | exact sh_bar (by omega) | exact sh_term (by omega) | exact sh_sheet (by omega) | exact sh_items (by omega) | exact sh_sums (by omega)) (by decide) (by decide) ?_
                refine wp_cS (pc := 89) dX12_sumFrom_89 lk_12_344 rfl rfl rfl (c_X12_sumOf (aK_i ?_))
                refine wp_aload_n (pc := 92) dX12_sumFrom_92 (by first | rfl | assumption | (repeat first | assumption | rfl | refine aG_n ?_ rfl rfl)) ?_
                refine wp_getR (pc := 93) dX12_sumFrom_93 fl_12_119 (by first | rfl | assumption | exact sh_house (by omega) | exact sh_wish (by omega) | exact sh_wor (by omega) | exact sh_bar (by omega) | exact sh_term (by omega) | exact sh_sheet (by omega) | exact sh_items (by omega) | exact sh_sums (by omega)) rfl ?_
                refine wp_bipush (pc := 96) (v := 6) dX12_sumFrom_96 (by decide) ?_
                refine wp_ialdC (pc := 98) (j := 6) dX12_sumFrom_98 (by first | rfl | assumption | exact sh_house (by omega) | exact sh_wish (by omega) | exact sh_wor (by omega) | exact sh_bar (by omega) | exact sh_term (by omega) | exact sh_sheet (by omega) | exact sh_items (by omega) | exact sh_sums (by omega)) (by decide) (by decide) ?_
                refine wp_aload_n (pc := 99) dX12_sumFrom_99 (by first | rfl | assumption | (repeat first | assumption | rfl | refine aG_n ?_ rfl rfl)) ?_
                refine wp_getR (pc := 100) dX12_sumFrom_100 fl_12_119 (by first | rfl | assumption | exact sh_house (by omega) | exact sh_wish (by omega) | exact sh_wor (by omega) | exact sh_bar (by omega) | exact sh_term (by omega) | exact sh_sheet (by omega) | exact sh_items (by omega) | exact sh_sums (by omega)) rfl ?_
                refine wp_bipush (pc := 103) (v := 7) dX12_sumFrom_103 (by decide) ?_
                refine wp_ialdC (pc := 105) (j := 7) dX12_sumFrom_105 (by first | rfl | assumption | exact sh_house (by omega) | exact sh_wish (by omega) | exact sh_wor (by omega) | exact sh_bar (by omega) | exact sh_term (by omega) | exact sh_sheet (by omega) | exact sh_items (by omega) | exact sh_sums (by omega)) (by decide) (by decide) ?_
                refine wp_cS (pc := 106) dX12_sumFrom_106 lk_12_344 rfl rfl rfl (c_X12_sumOf (aK_i ?_))
                refine wp_cS (pc := 109) dX12_sumFrom_109 lk_12_344 rfl rfl rfl (c_X12_sumOf (aK_i ?_))
                refine wp_cS (pc := 112) dX12_sumFrom_112 lk_12_344 rfl rfl rfl (c_X12_sumOf (aK_i ?_))
                refine wp_iretK (pc := 115) dX12_sumFrom_115 rfl (by first | rfl | decide | assumption) ?_
                refine wp_icmp_ne (pc := 81) (tgt := 88) dX12_proves_81 rfl (fun q => absurd (by rw [root_eq hR]; exact c5) q) (fun _ => ?_)
                refine wp_iconst (pc := 84) (v := 1) dX12_proves_84 (by decide) ?_
                refine wp_goto (pc := 85) (tgt := 89) dX12_proves_85 rfl ?_
                refine wp_ireturn (pc := 89) dX12_proves_89 rfl (by first | rfl | decide | assumption) ?_
                exact k' _ hI
              · skip
                refine wp_iload_n (pc := 0) dX11_proves_0 (by first | rfl | assumption | (repeat first | assumption | rfl | refine aG_n ?_ rfl rfl)) ?_
                refine wp_iconst (pc := 1) (v := 0) dX11_proves_1 (by decide) ?_
                refine wp_bipush (pc := 2) (v := 7) dX11_proves_2 (by decide) ?_
                refine wp_cS (pc := 4) dX11_proves_4 lk_11_112 rfl rfl rfl (c_X11_isWithin (fun _ => aK_i ?_) (fun q => absurd c0 q))
                refine wp_if_eq (pc := 7) (tgt := 40) dX11_proves_7 rfl (fun q => absurd q (by decide)) (fun _ => ?_)
                refine wp_iload_n (pc := 10) dX11_proves_10 (by first | rfl | assumption | (repeat first | assumption | rfl | refine aG_n ?_ rfl rfl)) ?_
                refine wp_cS (pc := 11) dX11_proves_11 lk_11_355 rfl rfl rfl (c_X11_isSum (fun _ => aK_i ?_) (fun q => absurd c1 q))
                refine wp_if_eq (pc := 14) (tgt := 40) dX11_proves_14 rfl (fun q => absurd q (by decide)) (fun _ => ?_)
                refine wp_iload_n (pc := 17) dX11_proves_17 (by first | rfl | assumption | (repeat first | assumption | rfl | refine aG_n ?_ rfl rfl)) ?_
                refine wp_cS (pc := 18) dX11_proves_18 lk_11_355 rfl rfl rfl (c_X11_isSum (fun _ => aK_i ?_) (fun q => absurd c2 q))
                refine wp_if_eq (pc := 21) (tgt := 40) dX11_proves_21 rfl (fun q => absurd q (by decide)) (fun _ => ?_)
                refine wp_iload (pc := 24) dX11_proves_24 (by first | rfl | assumption | (repeat first | assumption | rfl | refine aG_n ?_ rfl rfl)) ?_
                refine wp_cS (pc := 26) dX11_proves_26 lk_11_355 rfl rfl rfl (c_X11_isSum (fun _ => aK_i ?_) (fun q => absurd c3 q))
                refine wp_if_eq (pc := 29) (tgt := 40) dX11_proves_29 rfl (fun q => absurd q (by decide)) (fun _ => ?_)
                refine wp_iload (pc := 32) dX11_proves_32 (by first | rfl | assumption | (repeat first | assumption | rfl | refine aG_n ?_ rfl rfl)) ?_
                refine wp_cS (pc := 34) dX11_proves_34 lk_11_355 rfl rfl rfl (c_X11_isSum (fun _ => aK_i ?_) (fun q => absurd c4 q))
                refine wp_if_ne (pc := 37) (tgt := 42) dX11_proves_37 rfl (fun _ => ?_) (fun q => absurd q (by decide))
                refine wp_iload_n (pc := 42) dX11_proves_42 (by first | rfl | assumption | (repeat first | assumption | rfl | refine aG_n ?_ rfl rfl)) ?_
                refine wp_iload_n (pc := 43) dX11_proves_43 (by first | rfl | assumption | (repeat first | assumption | rfl | refine aG_n ?_ rfl rfl)) ?_
                refine wp_iload_n (pc := 44) dX11_proves_44 (by first | rfl | assumption | (repeat first | assumption | rfl | refine aG_n ?_ rfl rfl)) ?_
                refine wp_cS (pc := 45) dX11_proves_45 lk_11_358 rfl rfl rfl ?_
                refine wp_iload_n (pc := 0) dX5_climb_0 (by first | rfl | assumption | (repeat first | assumption | rfl | refine aG_n ?_ rfl rfl)) ?_
                refine wp_iconst (pc := 1) (v := 1) dX5_climb_1 (by decide) ?_
                refine wp_iand (pc := 2) dX5_climb_2 ?_
                refine wp_if_ne (pc := 3) (tgt := 14) dX5_climb_3 rfl (fun _ => ?_) (fun q => absurd q (by decide))
                refine wp_iload_n (pc := 14) dX5_climb_14 (by first | rfl | assumption | (repeat first | assumption | rfl | refine aG_n ?_ rfl rfl)) ?_
                refine wp_iload_n (pc := 15) dX5_climb_15 (by first | rfl | assumption | (repeat first | assumption | rfl | refine aG_n ?_ rfl rfl)) ?_
                refine wp_cS (pc := 16) dX5_climb_16 lk_5_13 rfl rfl rfl (c_X5_sum (aK_i ?_))
                refine wp_iretK (pc := 19) dX5_climb_19 rfl (by first | rfl | decide | assumption) ?_
                refine wp_istore (pc := 48) dX11_proves_48 (by decide) ?_
                refine wp_iload_n (pc := 50) dX11_proves_50 (by first | rfl | assumption | (repeat first | assumption | rfl | refine aG_n ?_ rfl rfl)) ?_
                refine wp_iconst (pc := 51) (v := 1) dX11_proves_51 (by decide) ?_
                refine wp_ishr (pc := 52) dX11_proves_52 ?_
                refine wp_iload (pc := 53) dX11_proves_53 (by first | rfl | assumption | (repeat first | assumption | rfl | refine aG_n ?_ rfl rfl)) ?_
                refine wp_iload (pc := 55) dX11_proves_55 (by first | rfl | assumption | (repeat first | assumption | rfl | refine aG_n ?_ rfl rfl)) ?_
                refine wp_cS (pc := 57) dX11_proves_57 lk_11_358 rfl rfl rfl ?_
                refine wp_iload_n (pc := 0) dX5_climb_0 (by first | rfl | assumption | (repeat first | assumption | rfl | refine aG_n ?_ rfl rfl)) ?_
                refine wp_iconst (pc := 1) (v := 1) dX5_climb_1 (by decide) ?_
                refine wp_iand (pc := 2) dX5_climb_2 ?_
                refine wp_if_ne (pc := 3) (tgt := 14) dX5_climb_3 rfl (fun _ => ?_) (fun q => absurd q (by decide))
                refine wp_iload_n (pc := 14) dX5_climb_14 (by first | rfl | assumption | (repeat first | assumption | rfl | refine aG_n ?_ rfl rfl)) ?_
                refine wp_iload_n (pc := 15) dX5_climb_15 (by first | rfl | assumption | (repeat first | assumption | rfl | refine aG_n ?_ rfl rfl)) ?_
                refine wp_cS (pc := 16) dX5_climb_16 lk_5_13 rfl rfl rfl (c_X5_sum (aK_i ?_))
                refine wp_iretK (pc := 19) dX5_climb_19 rfl (by first | rfl | decide | assumption) ?_
                refine wp_istore (pc := 60) dX11_proves_60 (by decide) ?_
                refine wp_iload_n (pc := 62) dX11_proves_62 (by first | rfl | assumption | (repeat first | assumption | rfl | refine aG_n ?_ rfl rfl)) ?_
                refine wp_iconst (pc := 63) (v := 2) dX11_proves_63 (by decide) ?_
                refine wp_ishr (pc := 64) dX11_proves_64 ?_
                refine wp_iload (pc := 65) dX11_proves_65 (by first | rfl | assumption | (repeat first | assumption | rfl | refine aG_n ?_ rfl rfl)) ?_
                refine wp_iload (pc := 67) dX11_proves_67 (by first | rfl | assumption | (repeat first | assumption | rfl | refine aG_n ?_ rfl rfl)) ?_
                refine wp_cS (pc := 69) dX11_proves_69 lk_11_358 rfl rfl rfl ?_
                refine wp_iload_n (pc := 0) dX5_climb_0 (by first | rfl | assumption | (repeat first | assumption | rfl | refine aG_n ?_ rfl rfl)) ?_
                refine wp_iconst (pc := 1) (v := 1) dX5_climb_1 (by decide) ?_
                refine wp_iand (pc := 2) dX5_climb_2 ?_
                refine wp_if_ne (pc := 3) (tgt := 14) dX5_climb_3 rfl (fun q => absurd q (by decide)) (fun _ => ?_)
                refine wp_iload_n (pc := 6) dX5_climb_6 (by first | rfl | assumption | (repeat first | assumption | rfl | refine aG_n ?_ rfl rfl)) ?_
                refine wp_iload_n (pc := 7) dX5_climb_7 (by first | rfl | assumption | (repeat first | assumption | rfl | refine aG_n ?_ rfl rfl)) ?_
                refine wp_cS (pc := 8) dX5_climb_8 lk_5_13 rfl rfl rfl (c_X5_sum (aK_i ?_))
                refine wp_goto (pc := 11) (tgt := 19) dX5_climb_11 rfl ?_
                refine wp_iretK (pc := 19) dX5_climb_19 rfl (by first | rfl | decide | assumption) ?_
                refine wp_istore (pc := 72) dX11_proves_72 (by decide) ?_
                refine wp_iload (pc := 74) dX11_proves_74 (by first | rfl | assumption | (repeat first | assumption | rfl | refine aG_n ?_ rfl rfl)) ?_
                refine wp_aload_n (pc := 76) dX11_proves_76 (by first | rfl | assumption | (repeat first | assumption | rfl | refine aG_n ?_ rfl rfl)) ?_
                refine wp_getR (pc := 77) dX11_proves_77 fl_11_60 (by first | rfl | assumption | exact sh_house (by omega) | exact sh_wish (by omega) | exact sh_wor (by omega) | exact sh_bar (by omega) | exact sh_term (by omega) | exact sh_sheet (by omega) | exact sh_items (by omega) | exact sh_sums (by omega)) rfl ?_
                refine wp_getR (pc := 80) dX11_proves_80 fl_11_349 (by first | rfl | assumption | exact sh_house (by omega) | exact sh_wish (by omega) | exact sh_wor (by omega) | exact sh_bar (by omega) | exact sh_term (by omega) | exact sh_sheet (by omega) | exact sh_items (by omega) | exact sh_sums (by omega)) rfl ?_
                refine wp_iconst (pc := 83) (v := 1) dX11_proves_83 (by decide) ?_
                refine wp_ialdC (pc := 84) (j := 1) dX11_proves_84 (by first | rfl | assumption | exact sh_house (by omega) | exact sh_wish (by omega) | exact sh_wor (by omega) | exact sh_bar (by omega) | exact sh_term (by omega) | exact sh_sheet (by omega) | exact sh_items (by omega) | exact sh_sums (by omega)) (by decide) (by decide) ?_
                refine wp_icmp_ne (pc := 85) (tgt := 92) dX11_proves_85 rfl (fun _ => ?_) (fun q => absurd q c5)
                refine wp_iconst (pc := 92) (v := 0) dX11_proves_92 (by decide) ?_
                refine wp_cS (pc := 93) dX11_proves_93 lk_11_148 rfl rfl rfl ?_
                refine wp_iload_n (pc := 0) dX11_oneIf_0 (by first | rfl | assumption | (repeat first | assumption | rfl | refine aG_n ?_ rfl rfl)) ?_
                refine wp_if_eq (pc := 1) (tgt := 8) dX11_oneIf_1 rfl (fun _ => ?_) (fun q => absurd q (by decide))
                refine wp_iconst (pc := 8) (v := 0) dX11_oneIf_8 (by decide) ?_
                refine wp_iretK (pc := 9) dX11_oneIf_9 rfl (by first | rfl | decide | assumption) ?_
                refine wp_ireturn (pc := 96) dX11_proves_96 rfl (by first | rfl | decide | assumption) ?_
                refine k _ _ (fun Q' k' => ?_)
                refine wp_iload_n (pc := 0) dX12_proves_0 (by first | rfl | assumption | (repeat first | assumption | rfl | refine aG_n ?_ rfl rfl)) ?_
                refine wp_i2l (pc := 1) dX12_proves_1 ?_
                refine wp_lconst (pc := 2) (v := 0) dX12_proves_2 (by decide) ?_
                refine wp_ldc2 (pc := 3) dX12_proves_3 cl_12_347 ?_
                refine wp_cS (pc := 6) dX12_proves_6 lk_12_133 rfl rfl rfl (c_X12_in (fun _ => aK_i ?_) (fun q => absurd (by rw [w_int]; exact c0) q))
                refine wp_if_eq (pc := 9) (tgt := 42) dX12_proves_9 rfl (fun q => absurd q (by decide)) (fun _ => ?_)
                refine wp_iload_n (pc := 12) dX12_proves_12 (by first | rfl | assumption | (repeat first | assumption | rfl | refine aG_n ?_ rfl rfl)) ?_
                refine wp_cS (pc := 13) dX12_proves_13 lk_12_354 rfl rfl rfl (c_X12_isSum (fun _ => aK_i ?_) (fun q => absurd c1 q))
                refine wp_if_eq (pc := 16) (tgt := 42) dX12_proves_16 rfl (fun q => absurd q (by decide)) (fun _ => ?_)
                refine wp_iload_n (pc := 19) dX12_proves_19 (by first | rfl | assumption | (repeat first | assumption | rfl | refine aG_n ?_ rfl rfl)) ?_
                refine wp_cS (pc := 20) dX12_proves_20 lk_12_354 rfl rfl rfl (c_X12_isSum (fun _ => aK_i ?_) (fun q => absurd c2 q))
                refine wp_if_eq (pc := 23) (tgt := 42) dX12_proves_23 rfl (fun q => absurd q (by decide)) (fun _ => ?_)
                refine wp_iload (pc := 26) dX12_proves_26 (by first | rfl | assumption | (repeat first | assumption | rfl | refine aG_n ?_ rfl rfl)) ?_
                refine wp_cS (pc := 28) dX12_proves_28 lk_12_354 rfl rfl rfl (c_X12_isSum (fun _ => aK_i ?_) (fun q => absurd c3 q))
                refine wp_if_eq (pc := 31) (tgt := 42) dX12_proves_31 rfl (fun q => absurd q (by decide)) (fun _ => ?_)
                refine wp_iload (pc := 34) dX12_proves_34 (by first | rfl | assumption | (repeat first | assumption | rfl | refine aG_n ?_ rfl rfl)) ?_
                refine wp_cS (pc := 36) dX12_proves_36 lk_12_354 rfl rfl rfl (c_X12_isSum (fun _ => aK_i ?_) (fun q => absurd c4 q))
                refine wp_if_ne (pc := 39) (tgt := 44) dX12_proves_39 rfl (fun _ => ?_) (fun q => absurd q (by decide))
                refine wp_iload_n (pc := 44) dX12_proves_44 (by first | rfl | assumption | (repeat first | assumption | rfl | refine aG_n ?_ rfl rfl)) ?_
                refine wp_iload_n (pc := 45) dX12_proves_45 (by first | rfl | assumption | (repeat first | assumption | rfl | refine aG_n ?_ rfl rfl)) ?_
                refine wp_iload_n (pc := 46) dX12_proves_46 (by first | rfl | assumption | (repeat first | assumption | rfl | refine aG_n ?_ rfl rfl)) ?_
                refine wp_cS (pc := 47) dX12_proves_47 lk_12_357 rfl rfl rfl ?_
                refine wp_iload_n (pc := 0) dX12_sumBeside_0 (by first | rfl | assumption | (repeat first | assumption | rfl | refine aG_n ?_ rfl rfl)) ?_
                refine wp_iconst (pc := 1) (v := 2) dX12_sumBeside_1 (by decide) ?_
                refine wp_irem (pc := 2) dX12_sumBeside_2 (by decide) ?_
                refine wp_if_ne (pc := 3) (tgt := 14) dX12_sumBeside_3 rfl (fun _ => ?_) (fun q => absurd q (by decide))
                refine wp_iload_n (pc := 14) dX12_sumBeside_14 (by first | rfl | assumption | (repeat first | assumption | rfl | refine aG_n ?_ rfl rfl)) ?_
                refine wp_iload_n (pc := 15) dX12_sumBeside_15 (by first | rfl | assumption | (repeat first | assumption | rfl | refine aG_n ?_ rfl rfl)) ?_
                refine wp_cS (pc := 16) dX12_sumBeside_16 lk_12_344 rfl rfl rfl (c_X12_sumOf (aK_i ?_))
                refine wp_iretK (pc := 19) dX12_sumBeside_19 rfl (by first | rfl | decide | assumption) ?_
                refine wp_istore (pc := 50) dX12_proves_50 (by decide) ?_
                refine wp_iload_n (pc := 52) dX12_proves_52 (by first | rfl | assumption | (repeat first | assumption | rfl | refine aG_n ?_ rfl rfl)) ?_
                refine wp_iconst (pc := 53) (v := 2) dX12_proves_53 (by decide) ?_
                refine wp_idiv (pc := 54) dX12_proves_54 (by decide) ?_
                refine wp_iload (pc := 55) dX12_proves_55 (by first | rfl | assumption | (repeat first | assumption | rfl | refine aG_n ?_ rfl rfl)) ?_
                refine wp_iload (pc := 57) dX12_proves_57 (by first | rfl | assumption | (repeat first | assumption | rfl | refine aG_n ?_ rfl rfl)) ?_
                refine wp_cS (pc := 59) dX12_proves_59 lk_12_357 rfl rfl rfl ?_
                refine wp_iload_n (pc := 0) dX12_sumBeside_0 (by first | rfl | assumption | (repeat first | assumption | rfl | refine aG_n ?_ rfl rfl)) ?_
                refine wp_iconst (pc := 1) (v := 2) dX12_sumBeside_1 (by decide) ?_
                refine wp_irem (pc := 2) dX12_sumBeside_2 (by decide) ?_
                refine wp_if_ne (pc := 3) (tgt := 14) dX12_sumBeside_3 rfl (fun _ => ?_) (fun q => absurd q (by decide))
                refine wp_iload_n (pc := 14) dX12_sumBeside_14 (by first | rfl | assumption | (repeat first | assumption | rfl | refine aG_n ?_ rfl rfl)) ?_
                refine wp_iload_n (pc := 15) dX12_sumBeside_15 (by first | rfl | assumption | (repeat first | assumption | rfl | refine aG_n ?_ rfl rfl)) ?_
                refine wp_cS (pc := 16) dX12_sumBeside_16 lk_12_344 rfl rfl rfl (c_X12_sumOf (aK_i ?_))
                refine wp_iretK (pc := 19) dX12_sumBeside_19 rfl (by first | rfl | decide | assumption) ?_
                refine wp_istore (pc := 62) dX12_proves_62 (by decide) ?_
                refine wp_iload_n (pc := 64) dX12_proves_64 (by first | rfl | assumption | (repeat first | assumption | rfl | refine aG_n ?_ rfl rfl)) ?_
                refine wp_iconst (pc := 65) (v := 4) dX12_proves_65 (by decide) ?_
                refine wp_idiv (pc := 66) dX12_proves_66 (by decide) ?_
                refine wp_iload (pc := 67) dX12_proves_67 (by first | rfl | assumption | (repeat first | assumption | rfl | refine aG_n ?_ rfl rfl)) ?_
                refine wp_iload (pc := 69) dX12_proves_69 (by first | rfl | assumption | (repeat first | assumption | rfl | refine aG_n ?_ rfl rfl)) ?_
                refine wp_cS (pc := 71) dX12_proves_71 lk_12_357 rfl rfl rfl ?_
                refine wp_iload_n (pc := 0) dX12_sumBeside_0 (by first | rfl | assumption | (repeat first | assumption | rfl | refine aG_n ?_ rfl rfl)) ?_
                refine wp_iconst (pc := 1) (v := 2) dX12_sumBeside_1 (by decide) ?_
                refine wp_irem (pc := 2) dX12_sumBeside_2 (by decide) ?_
                refine wp_if_ne (pc := 3) (tgt := 14) dX12_sumBeside_3 rfl (fun q => absurd q (by decide)) (fun _ => ?_)
                refine wp_iload_n (pc := 6) dX12_sumBeside_6 (by first | rfl | assumption | (repeat first | assumption | rfl | refine aG_n ?_ rfl rfl)) ?_
                refine wp_iload_n (pc := 7) dX12_sumBeside_7 (by first | rfl | assumption | (repeat first | assumption | rfl | refine aG_n ?_ rfl rfl)) ?_
                refine wp_cS (pc := 8) dX12_sumBeside_8 lk_12_344 rfl rfl rfl (c_X12_sumOf (aK_i ?_))
                refine wp_goto (pc := 11) (tgt := 19) dX12_sumBeside_11 rfl ?_
                refine wp_iretK (pc := 19) dX12_sumBeside_19 rfl (by first | rfl | decide | assumption) ?_
                refine wp_aload_n (pc := 74) dX12_proves_74 (by first | rfl | assumption | (repeat first | assumption | rfl | refine aG_n ?_ rfl rfl)) ?_
                refine wp_iconst (pc := 75) (v := 0) dX12_proves_75 (by decide) ?_
                refine wp_bipush (pc := 76) (v := 8) dX12_proves_76 (by decide) ?_
                refine wp_cV (pc := 78) dX12_proves_78 lk_12_349 rfl (by decide) rfl (by first | rfl | assumption | exact sh_house (by omega) | exact sh_wish (by omega) | exact sh_wor (by omega) | exact sh_bar (by omega) | exact sh_term (by omega) | exact sh_sheet (by omega) | exact sh_items (by omega) | exact sh_sums (by omega)) rfl rfl ?_
                refine wp_aload_n (pc := 0) dX12_sumFrom_0 (by first | rfl | assumption | (repeat first | assumption | rfl | refine aG_n ?_ rfl rfl)) ?_
                refine wp_getR (pc := 1) dX12_sumFrom_1 fl_12_119 (by first | rfl | assumption | exact sh_house (by omega) | exact sh_wish (by omega) | exact sh_wor (by omega) | exact sh_bar (by omega) | exact sh_term (by omega) | exact sh_sheet (by omega) | exact sh_items (by omega) | exact sh_sums (by omega)) rfl ?_
                refine wp_iload_n (pc := 4) dX12_sumFrom_4 (by first | rfl | assumption | (repeat first | assumption | rfl | refine aG_n ?_ rfl rfl)) ?_
                refine wp_ialdC (pc := 5) (j := 0) dX12_sumFrom_5 (by first | rfl | assumption | exact sh_house (by omega) | exact sh_wish (by omega) | exact sh_wor (by omega) | exact sh_bar (by omega) | exact sh_term (by omega) | exact sh_sheet (by omega) | exact sh_items (by omega) | exact sh_sums (by omega)) (by decide) (by decide) ?_
                refine wp_aload_n (pc := 6) dX12_sumFrom_6 (by first | rfl | assumption | (repeat first | assumption | rfl | refine aG_n ?_ rfl rfl)) ?_
                refine wp_getR (pc := 7) dX12_sumFrom_7 fl_12_119 (by first | rfl | assumption | exact sh_house (by omega) | exact sh_wish (by omega) | exact sh_wor (by omega) | exact sh_bar (by omega) | exact sh_term (by omega) | exact sh_sheet (by omega) | exact sh_items (by omega) | exact sh_sums (by omega)) rfl ?_
                refine wp_iload_n (pc := 10) dX12_sumFrom_10 (by first | rfl | assumption | (repeat first | assumption | rfl | refine aG_n ?_ rfl rfl)) ?_
                refine wp_iconst (pc := 11) (v := 1) dX12_sumFrom_11 (by decide) ?_
                refine wp_iadd (pc := 12) dX12_sumFrom_12 ?_
                refine wp_bipush (pc := 13) (v := 8) dX12_sumFrom_13 (by decide) ?_
                refine wp_irem (pc := 15) dX12_sumFrom_15 (by decide) ?_
                refine wp_ialdC (pc := 16) (j := 1) dX12_sumFrom_16 (by first | rfl | assumption | exact sh_house (by omega) | exact sh_wish (by omega) | exact sh_wor (by omega) | exact sh_bar (by omega) | exact sh_term (by omega) | exact sh_sheet (by omega) | exact sh_items (by omega) | exact sh_sums (by omega)) (by decide) (by decide) ?_
                refine wp_cS (pc := 17) dX12_sumFrom_17 lk_12_344 rfl rfl rfl (c_X12_sumOf (aK_i ?_))
                refine wp_istore_n (pc := 20) dX12_sumFrom_20 (by decide) ?_
                refine wp_iload_n (pc := 21) dX12_sumFrom_21 (by first | rfl | assumption | (repeat first | assumption | rfl | refine aG_n ?_ rfl rfl)) ?_
                refine wp_iconst (pc := 22) (v := 4) dX12_sumFrom_22 (by decide) ?_
                refine wp_icmp_ge (pc := 23) (tgt := 42) dX12_sumFrom_23 rfl (fun _ => ?_) (fun q => absurd q (by decide))
                refine wp_iload_n (pc := 42) dX12_sumFrom_42 (by first | rfl | assumption | (repeat first | assumption | rfl | refine aG_n ?_ rfl rfl)) ?_
                refine wp_aload_n (pc := 43) dX12_sumFrom_43 (by first | rfl | assumption | (repeat first | assumption | rfl | refine aG_n ?_ rfl rfl)) ?_
                refine wp_getR (pc := 44) dX12_sumFrom_44 fl_12_119 (by first | rfl | assumption | exact sh_house (by omega) | exact sh_wish (by omega) | exact sh_wor (by omega) | exact sh_bar (by omega) | exact sh_term (by omega) | exact sh_sheet (by omega) | exact sh_items (by omega) | exact sh_sums (by omega)) rfl ?_
                refine wp_iload_n (pc := 47) dX12_sumFrom_47 (by first | rfl | assumption | (repeat first | assumption | rfl | refine aG_n ?_ rfl rfl)) ?_
                refine wp_iconst (pc := 48) (v := 2) dX12_sumFrom_48 (by decide) ?_
                refine wp_iadd (pc := 49) dX12_sumFrom_49 ?_
                refine wp_ialdC (pc := 50) (j := 2) dX12_sumFrom_50 (by first | rfl | assumption | exact sh_house (by omega) | exact sh_wish (by omega) | exact sh_wor (by omega) | exact sh_bar (by omega) | exact sh_term (by omega) | exact sh_sheet (by omega) | exact sh_items (by omega) | exact sh_sums (by omega)) (by decide) (by decide) ?_
                refine wp_aload_n (pc := 51) dX12_sumFrom_51 (by first | rfl | assumption | (repeat first | assumption | rfl | refine aG_n ?_ rfl rfl)) ?_
                refine wp_getR (pc := 52) dX12_sumFrom_52 fl_12_119 (by first | rfl | assumption | exact sh_house (by omega) | exact sh_wish (by omega) | exact sh_wor (by omega) | exact sh_bar (by omega) | exact sh_term (by omega) | exact sh_sheet (by omega) | exact sh_items (by omega) | exact sh_sums (by omega)) rfl ?_
                refine wp_iload_n (pc := 55) dX12_sumFrom_55 (by first | rfl | assumption | (repeat first | assumption | rfl | refine aG_n ?_ rfl rfl)) ?_
                refine wp_iconst (pc := 56) (v := 3) dX12_sumFrom_56 (by decide) ?_
                refine wp_iadd (pc := 57) dX12_sumFrom_57 ?_
                refine wp_ialdC (pc := 58) (j := 3) dX12_sumFrom_58 (by first | rfl | assumption | exact sh_house (by omega) | exact sh_wish (by omega) | exact sh_wor (by omega) | exact sh_bar (by omega) | exact sh_term (by omega) | exact sh_sheet (by omega) | exact sh_items (by omega) | exact sh_sums (by omega)) (by decide) (by decide) ?_
                refine wp_cS (pc := 59) dX12_sumFrom_59 lk_12_344 rfl rfl rfl (c_X12_sumOf (aK_i ?_))
                refine wp_cS (pc := 62) dX12_sumFrom_62 lk_12_344 rfl rfl rfl (c_X12_sumOf (aK_i ?_))
                refine wp_istore (pc := 65) dX12_sumFrom_65 (by decide) ?_
                refine wp_iload_n (pc := 67) dX12_sumFrom_67 (by first | rfl | assumption | (repeat first | assumption | rfl | refine aG_n ?_ rfl rfl)) ?_
                refine wp_iconst (pc := 68) (v := 4) dX12_sumFrom_68 (by decide) ?_
                refine wp_icmp_ne (pc := 69) (tgt := 75) dX12_sumFrom_69 rfl (fun _ => ?_) (fun q => absurd q (by decide))
                refine wp_iload (pc := 75) dX12_sumFrom_75 (by first | rfl | assumption | (repeat first | assumption | rfl | refine aG_n ?_ rfl rfl)) ?_
                refine wp_aload_n (pc := 77) dX12_sumFrom_77 (by first | rfl | assumption | (repeat first | assumption | rfl | refine aG_n ?_ rfl rfl)) ?_
                refine wp_getR (pc := 78) dX12_sumFrom_78 fl_12_119 (by first | rfl | assumption | exact sh_house (by omega) | exact sh_wish (by omega) | exact sh_wor (by omega) | exact sh_bar (by omega) | exact sh_term (by omega) | exact sh_sheet (by omega) | exact sh_items (by omega) | exact sh_sums (by omega)) rfl ?_
                refine wp_iconst (pc := 81) (v := 4) dX12_sumFrom_81 (by decide) ?_
                refine wp_ialdC (pc := 82) (j := 4) dX12_sumFrom_82 (by first | rfl | assumption | exact sh_house (by omega) | exact sh_wish (by omega) | exact sh_wor (by omega) | exact sh_bar (by omega) | exact sh_term (by omega) | exact sh_sheet (by omega) | exact sh_items (by omega) | exact sh_sums (by omega)) (by decide) (by decide) ?_
                refine wp_aload_n (pc := 83) dX12_sumFrom_83 (by first | rfl | assumption | (repeat first | assumption | rfl | refine aG_n ?_ rfl rfl)) ?_
                refine wp_getR (pc := 84) dX12_sumFrom_84 fl_12_119 (by first | rfl | assumption | exact sh_house (by omega) | exact sh_wish (by omega) | exact sh_wor (by omega) | exact sh_bar (by omega) | exact sh_term (by omega) | exact sh_sheet (by omega) | exact sh_items (by omega) | exact sh_sums (by omega)) rfl ?_
                refine wp_iconst (pc := 87) (v := 5) dX12_sumFrom_87 (by decide) ?_
                refine wp_ialdC (pc := 88) (j := 5) dX12_sumFrom_88 (by first | rfl | assumption | exact sh_house (by omega) | exact sh_wish (by omega) | exact sh_wor (by omega) | exact sh_bar (by omega) | exact sh_term (by omega) | exact sh_sheet (by omega) | exact sh_items (by omega) | exact sh_sums (by omega)) (by decide) (by decide) ?_
                refine wp_cS (pc := 89) dX12_sumFrom_89 lk_12_344 rfl rfl rfl (c_X12_sumOf (aK_i ?_))
                refine wp_aload_n (pc := 92) dX12_sumFrom_92 (by first | rfl | assumption | (repeat first | assumption | rfl | refine aG_n ?_ rfl rfl)) ?_
                refine wp_getR (pc := 93) dX12_sumFrom_93 fl_12_119 (by first | rfl | assumption | exact sh_house (by omega) | exact sh_wish (by omega) | exact sh_wor (by omega) | exact sh_bar (by omega) | exact sh_term (by omega) | exact sh_sheet (by omega) | exact sh_items (by omega) | exact sh_sums (by omega)) rfl ?_
                refine wp_bipush (pc := 96) (v := 6) dX12_sumFrom_96 (by decide) ?_
                refine wp_ialdC (pc := 98) (j := 6) dX12_sumFrom_98 (by first | rfl | assumption | exact sh_house (by omega) | exact sh_wish (by omega) | exact sh_wor (by omega) | exact sh_bar (by omega) | exact sh_term (by omega) | exact sh_sheet (by omega) | exact sh_items (by omega) | exact sh_sums (by omega)) (by decide) (by decide) ?_
                refine wp_aload_n (pc := 99) dX12_sumFrom_99 (by first | rfl | assumption | (repeat first | assumption | rfl | refine aG_n ?_ rfl rfl)) ?_
                refine wp_getR (pc := 100) dX12_sumFrom_100 fl_12_119 (by first | rfl | assumption | exact sh_house (by omega) | exact sh_wish (by omega) | exact sh_wor (by omega) | exact sh_bar (by omega) | exact sh_term (by omega) | exact sh_sheet (by omega) | exact sh_items (by omega) | exact sh_sums (by omega)) rfl ?_
                refine wp_bipush (pc := 103) (v := 7) dX12_sumFrom_103 (by decide) ?_
                refine wp_ialdC (pc := 105) (j := 7) dX12_sumFrom_105 (by first | rfl | assumption | exact sh_house (by omega) | exact sh_wish (by omega) | exact sh_wor (by omega) | exact sh_bar (by omega) | exact sh_term (by omega) | exact sh_sheet (by omega) | exact sh_items (by omega) | exact sh_sums (by omega)) (by decide) (by decide) ?_
                refine wp_cS (pc := 106) dX12_sumFrom_106 lk_12_344 rfl rfl rfl (c_X12_sumOf (aK_i ?_))
                refine wp_cS (pc := 109) dX12_sumFrom_109 lk_12_344 rfl rfl rfl (c_X12_sumOf (aK_i ?_))
                refine wp_cS (pc := 112) dX12_sumFrom_112 lk_12_344 rfl rfl rfl (c_X12_sumOf (aK_i ?_))
                refine wp_iretK (pc := 115) dX12_sumFrom_115 rfl (by first | rfl | decide | assumption) ?_
                refine wp_icmp_ne (pc := 81) (tgt := 88) dX12_proves_81 rfl (fun _ => ?_) (fun q => absurd q (by rw [root_eq hR]; exact c5))
                refine wp_iconst (pc := 88) (v := 0) dX12_proves_88 (by decide) ?_
                refine wp_ireturn (pc := 89) dX12_proves_89 rfl (by first | rfl | decide | assumption) ?_
                exact k' _ hI
            | 4, _ =>
              by_cases c5 : sm2 (z) (sm2 (sm2 (v) (x)) (y)) = μ.1 53 1
              · skip
                refine wp_iload_n (pc := 0) dX11_proves_0 (by first | rfl | assumption | (repeat first | assumption | rfl | refine aG_n ?_ rfl rfl)) ?_
                refine wp_iconst (pc := 1) (v := 0) dX11_proves_1 (by decide) ?_
                refine wp_bipush (pc := 2) (v := 7) dX11_proves_2 (by decide) ?_
                refine wp_cS (pc := 4) dX11_proves_4 lk_11_112 rfl rfl rfl (c_X11_isWithin (fun _ => aK_i ?_) (fun q => absurd c0 q))
                refine wp_if_eq (pc := 7) (tgt := 40) dX11_proves_7 rfl (fun q => absurd q (by decide)) (fun _ => ?_)
                refine wp_iload_n (pc := 10) dX11_proves_10 (by first | rfl | assumption | (repeat first | assumption | rfl | refine aG_n ?_ rfl rfl)) ?_
                refine wp_cS (pc := 11) dX11_proves_11 lk_11_355 rfl rfl rfl (c_X11_isSum (fun _ => aK_i ?_) (fun q => absurd c1 q))
                refine wp_if_eq (pc := 14) (tgt := 40) dX11_proves_14 rfl (fun q => absurd q (by decide)) (fun _ => ?_)
                refine wp_iload_n (pc := 17) dX11_proves_17 (by first | rfl | assumption | (repeat first | assumption | rfl | refine aG_n ?_ rfl rfl)) ?_
                refine wp_cS (pc := 18) dX11_proves_18 lk_11_355 rfl rfl rfl (c_X11_isSum (fun _ => aK_i ?_) (fun q => absurd c2 q))
                refine wp_if_eq (pc := 21) (tgt := 40) dX11_proves_21 rfl (fun q => absurd q (by decide)) (fun _ => ?_)
                refine wp_iload (pc := 24) dX11_proves_24 (by first | rfl | assumption | (repeat first | assumption | rfl | refine aG_n ?_ rfl rfl)) ?_
                refine wp_cS (pc := 26) dX11_proves_26 lk_11_355 rfl rfl rfl (c_X11_isSum (fun _ => aK_i ?_) (fun q => absurd c3 q))
                refine wp_if_eq (pc := 29) (tgt := 40) dX11_proves_29 rfl (fun q => absurd q (by decide)) (fun _ => ?_)
                refine wp_iload (pc := 32) dX11_proves_32 (by first | rfl | assumption | (repeat first | assumption | rfl | refine aG_n ?_ rfl rfl)) ?_
                refine wp_cS (pc := 34) dX11_proves_34 lk_11_355 rfl rfl rfl (c_X11_isSum (fun _ => aK_i ?_) (fun q => absurd c4 q))
                refine wp_if_ne (pc := 37) (tgt := 42) dX11_proves_37 rfl (fun _ => ?_) (fun q => absurd q (by decide))
                refine wp_iload_n (pc := 42) dX11_proves_42 (by first | rfl | assumption | (repeat first | assumption | rfl | refine aG_n ?_ rfl rfl)) ?_
                refine wp_iload_n (pc := 43) dX11_proves_43 (by first | rfl | assumption | (repeat first | assumption | rfl | refine aG_n ?_ rfl rfl)) ?_
                refine wp_iload_n (pc := 44) dX11_proves_44 (by first | rfl | assumption | (repeat first | assumption | rfl | refine aG_n ?_ rfl rfl)) ?_
                refine wp_cS (pc := 45) dX11_proves_45 lk_11_358 rfl rfl rfl ?_
                refine wp_iload_n (pc := 0) dX5_climb_0 (by first | rfl | assumption | (repeat first | assumption | rfl | refine aG_n ?_ rfl rfl)) ?_
                refine wp_iconst (pc := 1) (v := 1) dX5_climb_1 (by decide) ?_
                refine wp_iand (pc := 2) dX5_climb_2 ?_
                refine wp_if_ne (pc := 3) (tgt := 14) dX5_climb_3 rfl (fun q => absurd q (by decide)) (fun _ => ?_)
                refine wp_iload_n (pc := 6) dX5_climb_6 (by first | rfl | assumption | (repeat first | assumption | rfl | refine aG_n ?_ rfl rfl)) ?_
                refine wp_iload_n (pc := 7) dX5_climb_7 (by first | rfl | assumption | (repeat first | assumption | rfl | refine aG_n ?_ rfl rfl)) ?_
                refine wp_cS (pc := 8) dX5_climb_8 lk_5_13 rfl rfl rfl (c_X5_sum (aK_i ?_))
                refine wp_goto (pc := 11) (tgt := 19) dX5_climb_11 rfl ?_
                refine wp_iretK (pc := 19) dX5_climb_19 rfl (by first | rfl | decide | assumption) ?_
                refine wp_istore (pc := 48) dX11_proves_48 (by decide) ?_
                refine wp_iload_n (pc := 50) dX11_proves_50 (by first | rfl | assumption | (repeat first | assumption | rfl | refine aG_n ?_ rfl rfl)) ?_
                refine wp_iconst (pc := 51) (v := 1) dX11_proves_51 (by decide) ?_
                refine wp_ishr (pc := 52) dX11_proves_52 ?_
                refine wp_iload (pc := 53) dX11_proves_53 (by first | rfl | assumption | (repeat first | assumption | rfl | refine aG_n ?_ rfl rfl)) ?_
                refine wp_iload (pc := 55) dX11_proves_55 (by first | rfl | assumption | (repeat first | assumption | rfl | refine aG_n ?_ rfl rfl)) ?_
                refine wp_cS (pc := 57) dX11_proves_57 lk_11_358 rfl rfl rfl ?_
                refine wp_iload_n (pc := 0) dX5_climb_0 (by first | rfl | assumption | (repeat first | assumption | rfl | refine aG_n ?_ rfl rfl)) ?_
                refine wp_iconst (pc := 1) (v := 1) dX5_climb_1 (by decide) ?_
                refine wp_iand (pc := 2) dX5_climb_2 ?_
                refine wp_if_ne (pc := 3) (tgt := 14) dX5_climb_3 rfl (fun q => absurd q (by decide)) (fun _ => ?_)
                refine wp_iload_n (pc := 6) dX5_climb_6 (by first | rfl | assumption | (repeat first | assumption | rfl | refine aG_n ?_ rfl rfl)) ?_
                refine wp_iload_n (pc := 7) dX5_climb_7 (by first | rfl | assumption | (repeat first | assumption | rfl | refine aG_n ?_ rfl rfl)) ?_
                refine wp_cS (pc := 8) dX5_climb_8 lk_5_13 rfl rfl rfl (c_X5_sum (aK_i ?_))
                refine wp_goto (pc := 11) (tgt := 19) dX5_climb_11 rfl ?_
                refine wp_iretK (pc := 19) dX5_climb_19 rfl (by first | rfl | decide | assumption) ?_
                refine wp_istore (pc := 60) dX11_proves_60 (by decide) ?_
                refine wp_iload_n (pc := 62) dX11_proves_62 (by first | rfl | assumption | (repeat first | assumption | rfl | refine aG_n ?_ rfl rfl)) ?_
                refine wp_iconst (pc := 63) (v := 2) dX11_proves_63 (by decide) ?_
                refine wp_ishr (pc := 64) dX11_proves_64 ?_
                refine wp_iload (pc := 65) dX11_proves_65 (by first | rfl | assumption | (repeat first | assumption | rfl | refine aG_n ?_ rfl rfl)) ?_
                refine wp_iload (pc := 67) dX11_proves_67 (by first | rfl | assumption | (repeat first | assumption | rfl | refine aG_n ?_ rfl rfl)) ?_
                refine wp_cS (pc := 69) dX11_proves_69 lk_11_358 rfl rfl rfl ?_
                refine wp_iload_n (pc := 0) dX5_climb_0 (by first | rfl | assumption | (repeat first | assumption | rfl | refine aG_n ?_ rfl rfl)) ?_
                refine wp_iconst (pc := 1) (v := 1) dX5_climb_1 (by decide) ?_
                refine wp_iand (pc := 2) dX5_climb_2 ?_
                refine wp_if_ne (pc := 3) (tgt := 14) dX5_climb_3 rfl (fun _ => ?_) (fun q => absurd q (by decide))
                refine wp_iload_n (pc := 14) dX5_climb_14 (by first | rfl | assumption | (repeat first | assumption | rfl | refine aG_n ?_ rfl rfl)) ?_
                refine wp_iload_n (pc := 15) dX5_climb_15 (by first | rfl | assumption | (repeat first | assumption | rfl | refine aG_n ?_ rfl rfl)) ?_
                refine wp_cS (pc := 16) dX5_climb_16 lk_5_13 rfl rfl rfl (c_X5_sum (aK_i ?_))
                refine wp_iretK (pc := 19) dX5_climb_19 rfl (by first | rfl | decide | assumption) ?_
                refine wp_istore (pc := 72) dX11_proves_72 (by decide) ?_
                refine wp_iload (pc := 74) dX11_proves_74 (by first | rfl | assumption | (repeat first | assumption | rfl | refine aG_n ?_ rfl rfl)) ?_
                refine wp_aload_n (pc := 76) dX11_proves_76 (by first | rfl | assumption | (repeat first | assumption | rfl | refine aG_n ?_ rfl rfl)) ?_
                refine wp_getR (pc := 77) dX11_proves_77 fl_11_60 (by first | rfl | assumption | exact sh_house (by omega) | exact sh_wish (by omega) | exact sh_wor (by omega) | exact sh_bar (by omega) | exact sh_term (by omega) | exact sh_sheet (by omega) | exact sh_items (by omega) | exact sh_sums (by omega)) rfl ?_
                refine wp_getR (pc := 80) dX11_proves_80 fl_11_349 (by first | rfl | assumption | exact sh_house (by omega) | exact sh_wish (by omega) | exact sh_wor (by omega) | exact sh_bar (by omega) | exact sh_term (by omega) | exact sh_sheet (by omega) | exact sh_items (by omega) | exact sh_sums (by omega)) rfl ?_
                refine wp_iconst (pc := 83) (v := 1) dX11_proves_83 (by decide) ?_
                refine wp_ialdC (pc := 84) (j := 1) dX11_proves_84 (by first | rfl | assumption | exact sh_house (by omega) | exact sh_wish (by omega) | exact sh_wor (by omega) | exact sh_bar (by omega) | exact sh_term (by omega) | exact sh_sheet (by omega) | exact sh_items (by omega) | exact sh_sums (by omega)) (by decide) (by decide) ?_
                refine wp_icmp_ne (pc := 85) (tgt := 92) dX11_proves_85 rfl (fun q => absurd c5 q) (fun _ => ?_)
                refine wp_iconst (pc := 88) (v := 1) dX11_proves_88 (by decide) ?_
                refine wp_goto (pc := 89) (tgt := 93) dX11_proves_89 rfl ?_
                refine wp_cS (pc := 93) dX11_proves_93 lk_11_148 rfl rfl rfl ?_
                refine wp_iload_n (pc := 0) dX11_oneIf_0 (by first | rfl | assumption | (repeat first | assumption | rfl | refine aG_n ?_ rfl rfl)) ?_
                refine wp_if_eq (pc := 1) (tgt := 8) dX11_oneIf_1 rfl (fun q => absurd q (by decide)) (fun _ => ?_)
                refine wp_iconst (pc := 4) (v := 1) dX11_oneIf_4 (by decide) ?_
                refine wp_goto (pc := 5) (tgt := 9) dX11_oneIf_5 rfl ?_
                refine wp_iretK (pc := 9) dX11_oneIf_9 rfl (by first | rfl | decide | assumption) ?_
                refine wp_ireturn (pc := 96) dX11_proves_96 rfl (by first | rfl | decide | assumption) ?_
                refine k _ _ (fun Q' k' => ?_)
                refine wp_iload_n (pc := 0) dX12_proves_0 (by first | rfl | assumption | (repeat first | assumption | rfl | refine aG_n ?_ rfl rfl)) ?_
                refine wp_i2l (pc := 1) dX12_proves_1 ?_
                refine wp_lconst (pc := 2) (v := 0) dX12_proves_2 (by decide) ?_
                refine wp_ldc2 (pc := 3) dX12_proves_3 cl_12_347 ?_
                refine wp_cS (pc := 6) dX12_proves_6 lk_12_133 rfl rfl rfl (c_X12_in (fun _ => aK_i ?_) (fun q => absurd (by rw [w_int]; exact c0) q))
                refine wp_if_eq (pc := 9) (tgt := 42) dX12_proves_9 rfl (fun q => absurd q (by decide)) (fun _ => ?_)
                refine wp_iload_n (pc := 12) dX12_proves_12 (by first | rfl | assumption | (repeat first | assumption | rfl | refine aG_n ?_ rfl rfl)) ?_
                refine wp_cS (pc := 13) dX12_proves_13 lk_12_354 rfl rfl rfl (c_X12_isSum (fun _ => aK_i ?_) (fun q => absurd c1 q))
                refine wp_if_eq (pc := 16) (tgt := 42) dX12_proves_16 rfl (fun q => absurd q (by decide)) (fun _ => ?_)
                refine wp_iload_n (pc := 19) dX12_proves_19 (by first | rfl | assumption | (repeat first | assumption | rfl | refine aG_n ?_ rfl rfl)) ?_
                refine wp_cS (pc := 20) dX12_proves_20 lk_12_354 rfl rfl rfl (c_X12_isSum (fun _ => aK_i ?_) (fun q => absurd c2 q))
                refine wp_if_eq (pc := 23) (tgt := 42) dX12_proves_23 rfl (fun q => absurd q (by decide)) (fun _ => ?_)
                refine wp_iload (pc := 26) dX12_proves_26 (by first | rfl | assumption | (repeat first | assumption | rfl | refine aG_n ?_ rfl rfl)) ?_
                refine wp_cS (pc := 28) dX12_proves_28 lk_12_354 rfl rfl rfl (c_X12_isSum (fun _ => aK_i ?_) (fun q => absurd c3 q))
                refine wp_if_eq (pc := 31) (tgt := 42) dX12_proves_31 rfl (fun q => absurd q (by decide)) (fun _ => ?_)
                refine wp_iload (pc := 34) dX12_proves_34 (by first | rfl | assumption | (repeat first | assumption | rfl | refine aG_n ?_ rfl rfl)) ?_
                refine wp_cS (pc := 36) dX12_proves_36 lk_12_354 rfl rfl rfl (c_X12_isSum (fun _ => aK_i ?_) (fun q => absurd c4 q))
                refine wp_if_ne (pc := 39) (tgt := 44) dX12_proves_39 rfl (fun _ => ?_) (fun q => absurd q (by decide))
                refine wp_iload_n (pc := 44) dX12_proves_44 (by first | rfl | assumption | (repeat first | assumption | rfl | refine aG_n ?_ rfl rfl)) ?_
                refine wp_iload_n (pc := 45) dX12_proves_45 (by first | rfl | assumption | (repeat first | assumption | rfl | refine aG_n ?_ rfl rfl)) ?_
                refine wp_iload_n (pc := 46) dX12_proves_46 (by first | rfl | assumption | (repeat first | assumption | rfl | refine aG_n ?_ rfl rfl)) ?_
                refine wp_cS (pc := 47) dX12_proves_47 lk_12_357 rfl rfl rfl ?_
                refine wp_iload_n (pc := 0) dX12_sumBeside_0 (by first | rfl | assumption | (repeat first | assumption | rfl | refine aG_n ?_ rfl rfl)) ?_
                refine wp_iconst (pc := 1) (v := 2) dX12_sumBeside_1 (by decide) ?_
                refine wp_irem (pc := 2) dX12_sumBeside_2 (by decide) ?_
                refine wp_if_ne (pc := 3) (tgt := 14) dX12_sumBeside_3 rfl (fun q => absurd q (by decide)) (fun _ => ?_)
                refine wp_iload_n (pc := 6) dX12_sumBeside_6 (by first | rfl | assumption | (repeat first | assumption | rfl | refine aG_n ?_ rfl rfl)) ?_
                refine wp_iload_n (pc := 7) dX12_sumBeside_7 (by first | rfl | assumption | (repeat first | assumption | rfl | refine aG_n ?_ rfl rfl)) ?_
                refine wp_cS (pc := 8) dX12_sumBeside_8 lk_12_344 rfl rfl rfl (c_X12_sumOf (aK_i ?_))
                refine wp_goto (pc := 11) (tgt := 19) dX12_sumBeside_11 rfl ?_
                refine wp_iretK (pc := 19) dX12_sumBeside_19 rfl (by first | rfl | decide | assumption) ?_
                refine wp_istore (pc := 50) dX12_proves_50 (by decide) ?_
                refine wp_iload_n (pc := 52) dX12_proves_52 (by first | rfl | assumption | (repeat first | assumption | rfl | refine aG_n ?_ rfl rfl)) ?_
                refine wp_iconst (pc := 53) (v := 2) dX12_proves_53 (by decide) ?_
                refine wp_idiv (pc := 54) dX12_proves_54 (by decide) ?_
                refine wp_iload (pc := 55) dX12_proves_55 (by first | rfl | assumption | (repeat first | assumption | rfl | refine aG_n ?_ rfl rfl)) ?_
                refine wp_iload (pc := 57) dX12_proves_57 (by first | rfl | assumption | (repeat first | assumption | rfl | refine aG_n ?_ rfl rfl)) ?_
                refine wp_cS (pc := 59) dX12_proves_59 lk_12_357 rfl rfl rfl ?_
                refine wp_iload_n (pc := 0) dX12_sumBeside_0 (by first | rfl | assumption | (repeat first | assumption | rfl | refine aG_n ?_ rfl rfl)) ?_
                refine wp_iconst (pc := 1) (v := 2) dX12_sumBeside_1 (by decide) ?_
                refine wp_irem (pc := 2) dX12_sumBeside_2 (by decide) ?_
                refine wp_if_ne (pc := 3) (tgt := 14) dX12_sumBeside_3 rfl (fun q => absurd q (by decide)) (fun _ => ?_)
                refine wp_iload_n (pc := 6) dX12_sumBeside_6 (by first | rfl | assumption | (repeat first | assumption | rfl | refine aG_n ?_ rfl rfl)) ?_
                refine wp_iload_n (pc := 7) dX12_sumBeside_7 (by first | rfl | assumption | (repeat first | assumption | rfl | refine aG_n ?_ rfl rfl)) ?_
                refine wp_cS (pc := 8) dX12_sumBeside_8 lk_12_344 rfl rfl rfl (c_X12_sumOf (aK_i ?_))
                refine wp_goto (pc := 11) (tgt := 19) dX12_sumBeside_11 rfl ?_
                refine wp_iretK (pc := 19) dX12_sumBeside_19 rfl (by first | rfl | decide | assumption) ?_
                refine wp_istore (pc := 62) dX12_proves_62 (by decide) ?_
                refine wp_iload_n (pc := 64) dX12_proves_64 (by first | rfl | assumption | (repeat first | assumption | rfl | refine aG_n ?_ rfl rfl)) ?_
                refine wp_iconst (pc := 65) (v := 4) dX12_proves_65 (by decide) ?_
                refine wp_idiv (pc := 66) dX12_proves_66 (by decide) ?_
                refine wp_iload (pc := 67) dX12_proves_67 (by first | rfl | assumption | (repeat first | assumption | rfl | refine aG_n ?_ rfl rfl)) ?_
                refine wp_iload (pc := 69) dX12_proves_69 (by first | rfl | assumption | (repeat first | assumption | rfl | refine aG_n ?_ rfl rfl)) ?_
                refine wp_cS (pc := 71) dX12_proves_71 lk_12_357 rfl rfl rfl ?_
                refine wp_iload_n (pc := 0) dX12_sumBeside_0 (by first | rfl | assumption | (repeat first | assumption | rfl | refine aG_n ?_ rfl rfl)) ?_
                refine wp_iconst (pc := 1) (v := 2) dX12_sumBeside_1 (by decide) ?_
                refine wp_irem (pc := 2) dX12_sumBeside_2 (by decide) ?_
                refine wp_if_ne (pc := 3) (tgt := 14) dX12_sumBeside_3 rfl (fun _ => ?_) (fun q => absurd q (by decide))
                refine wp_iload_n (pc := 14) dX12_sumBeside_14 (by first | rfl | assumption | (repeat first | assumption | rfl | refine aG_n ?_ rfl rfl)) ?_
                refine wp_iload_n (pc := 15) dX12_sumBeside_15 (by first | rfl | assumption | (repeat first | assumption | rfl | refine aG_n ?_ rfl rfl)) ?_
                refine wp_cS (pc := 16) dX12_sumBeside_16 lk_12_344 rfl rfl rfl (c_X12_sumOf (aK_i ?_))
                refine wp_iretK (pc := 19) dX12_sumBeside_19 rfl (by first | rfl | decide | assumption) ?_
                refine wp_aload_n (pc := 74) dX12_proves_74 (by first | rfl | assumption | (repeat first | assumption | rfl | refine aG_n ?_ rfl rfl)) ?_
                refine wp_iconst (pc := 75) (v := 0) dX12_proves_75 (by decide) ?_
                refine wp_bipush (pc := 76) (v := 8) dX12_proves_76 (by decide) ?_
                refine wp_cV (pc := 78) dX12_proves_78 lk_12_349 rfl (by decide) rfl (by first | rfl | assumption | exact sh_house (by omega) | exact sh_wish (by omega) | exact sh_wor (by omega) | exact sh_bar (by omega) | exact sh_term (by omega) | exact sh_sheet (by omega) | exact sh_items (by omega) | exact sh_sums (by omega)) rfl rfl ?_
                refine wp_aload_n (pc := 0) dX12_sumFrom_0 (by first | rfl | assumption | (repeat first | assumption | rfl | refine aG_n ?_ rfl rfl)) ?_
                refine wp_getR (pc := 1) dX12_sumFrom_1 fl_12_119 (by first | rfl | assumption | exact sh_house (by omega) | exact sh_wish (by omega) | exact sh_wor (by omega) | exact sh_bar (by omega) | exact sh_term (by omega) | exact sh_sheet (by omega) | exact sh_items (by omega) | exact sh_sums (by omega)) rfl ?_
                refine wp_iload_n (pc := 4) dX12_sumFrom_4 (by first | rfl | assumption | (repeat first | assumption | rfl | refine aG_n ?_ rfl rfl)) ?_
                refine wp_ialdC (pc := 5) (j := 0) dX12_sumFrom_5 (by first | rfl | assumption | exact sh_house (by omega) | exact sh_wish (by omega) | exact sh_wor (by omega) | exact sh_bar (by omega) | exact sh_term (by omega) | exact sh_sheet (by omega) | exact sh_items (by omega) | exact sh_sums (by omega)) (by decide) (by decide) ?_
                refine wp_aload_n (pc := 6) dX12_sumFrom_6 (by first | rfl | assumption | (repeat first | assumption | rfl | refine aG_n ?_ rfl rfl)) ?_
                refine wp_getR (pc := 7) dX12_sumFrom_7 fl_12_119 (by first | rfl | assumption | exact sh_house (by omega) | exact sh_wish (by omega) | exact sh_wor (by omega) | exact sh_bar (by omega) | exact sh_term (by omega) | exact sh_sheet (by omega) | exact sh_items (by omega) | exact sh_sums (by omega)) rfl ?_
                refine wp_iload_n (pc := 10) dX12_sumFrom_10 (by first | rfl | assumption | (repeat first | assumption | rfl | refine aG_n ?_ rfl rfl)) ?_
                refine wp_iconst (pc := 11) (v := 1) dX12_sumFrom_11 (by decide) ?_
                refine wp_iadd (pc := 12) dX12_sumFrom_12 ?_
                refine wp_bipush (pc := 13) (v := 8) dX12_sumFrom_13 (by decide) ?_
                refine wp_irem (pc := 15) dX12_sumFrom_15 (by decide) ?_
                refine wp_ialdC (pc := 16) (j := 1) dX12_sumFrom_16 (by first | rfl | assumption | exact sh_house (by omega) | exact sh_wish (by omega) | exact sh_wor (by omega) | exact sh_bar (by omega) | exact sh_term (by omega) | exact sh_sheet (by omega) | exact sh_items (by omega) | exact sh_sums (by omega)) (by decide) (by decide) ?_
                refine wp_cS (pc := 17) dX12_sumFrom_17 lk_12_344 rfl rfl rfl (c_X12_sumOf (aK_i ?_))
                refine wp_istore_n (pc := 20) dX12_sumFrom_20 (by decide) ?_
                refine wp_iload_n (pc := 21) dX12_sumFrom_21 (by first | rfl | assumption | (repeat first | assumption | rfl | refine aG_n ?_ rfl rfl)) ?_
                refine wp_iconst (pc := 22) (v := 4) dX12_sumFrom_22 (by decide) ?_
                refine wp_icmp_ge (pc := 23) (tgt := 42) dX12_sumFrom_23 rfl (fun _ => ?_) (fun q => absurd q (by decide))
                refine wp_iload_n (pc := 42) dX12_sumFrom_42 (by first | rfl | assumption | (repeat first | assumption | rfl | refine aG_n ?_ rfl rfl)) ?_
                refine wp_aload_n (pc := 43) dX12_sumFrom_43 (by first | rfl | assumption | (repeat first | assumption | rfl | refine aG_n ?_ rfl rfl)) ?_
                refine wp_getR (pc := 44) dX12_sumFrom_44 fl_12_119 (by first | rfl | assumption | exact sh_house (by omega) | exact sh_wish (by omega) | exact sh_wor (by omega) | exact sh_bar (by omega) | exact sh_term (by omega) | exact sh_sheet (by omega) | exact sh_items (by omega) | exact sh_sums (by omega)) rfl ?_
                refine wp_iload_n (pc := 47) dX12_sumFrom_47 (by first | rfl | assumption | (repeat first | assumption | rfl | refine aG_n ?_ rfl rfl)) ?_
                refine wp_iconst (pc := 48) (v := 2) dX12_sumFrom_48 (by decide) ?_
                refine wp_iadd (pc := 49) dX12_sumFrom_49 ?_
                refine wp_ialdC (pc := 50) (j := 2) dX12_sumFrom_50 (by first | rfl | assumption | exact sh_house (by omega) | exact sh_wish (by omega) | exact sh_wor (by omega) | exact sh_bar (by omega) | exact sh_term (by omega) | exact sh_sheet (by omega) | exact sh_items (by omega) | exact sh_sums (by omega)) (by decide) (by decide) ?_
                refine wp_aload_n (pc := 51) dX12_sumFrom_51 (by first | rfl | assumption | (repeat first | assumption | rfl | refine aG_n ?_ rfl rfl)) ?_
                refine wp_getR (pc := 52) dX12_sumFrom_52 fl_12_119 (by first | rfl | assumption | exact sh_house (by omega) | exact sh_wish (by omega) | exact sh_wor (by omega) | exact sh_bar (by omega) | exact sh_term (by omega) | exact sh_sheet (by omega) | exact sh_items (by omega) | exact sh_sums (by omega)) rfl ?_
                refine wp_iload_n (pc := 55) dX12_sumFrom_55 (by first | rfl | assumption | (repeat first | assumption | rfl | refine aG_n ?_ rfl rfl)) ?_
                refine wp_iconst (pc := 56) (v := 3) dX12_sumFrom_56 (by decide) ?_
                refine wp_iadd (pc := 57) dX12_sumFrom_57 ?_
                refine wp_ialdC (pc := 58) (j := 3) dX12_sumFrom_58 (by first | rfl | assumption | exact sh_house (by omega) | exact sh_wish (by omega) | exact sh_wor (by omega) | exact sh_bar (by omega) | exact sh_term (by omega) | exact sh_sheet (by omega) | exact sh_items (by omega) | exact sh_sums (by omega)) (by decide) (by decide) ?_
                refine wp_cS (pc := 59) dX12_sumFrom_59 lk_12_344 rfl rfl rfl (c_X12_sumOf (aK_i ?_))
                refine wp_cS (pc := 62) dX12_sumFrom_62 lk_12_344 rfl rfl rfl (c_X12_sumOf (aK_i ?_))
                refine wp_istore (pc := 65) dX12_sumFrom_65 (by decide) ?_
                refine wp_iload_n (pc := 67) dX12_sumFrom_67 (by first | rfl | assumption | (repeat first | assumption | rfl | refine aG_n ?_ rfl rfl)) ?_
                refine wp_iconst (pc := 68) (v := 4) dX12_sumFrom_68 (by decide) ?_
                refine wp_icmp_ne (pc := 69) (tgt := 75) dX12_sumFrom_69 rfl (fun _ => ?_) (fun q => absurd q (by decide))
                refine wp_iload (pc := 75) dX12_sumFrom_75 (by first | rfl | assumption | (repeat first | assumption | rfl | refine aG_n ?_ rfl rfl)) ?_
                refine wp_aload_n (pc := 77) dX12_sumFrom_77 (by first | rfl | assumption | (repeat first | assumption | rfl | refine aG_n ?_ rfl rfl)) ?_
                refine wp_getR (pc := 78) dX12_sumFrom_78 fl_12_119 (by first | rfl | assumption | exact sh_house (by omega) | exact sh_wish (by omega) | exact sh_wor (by omega) | exact sh_bar (by omega) | exact sh_term (by omega) | exact sh_sheet (by omega) | exact sh_items (by omega) | exact sh_sums (by omega)) rfl ?_
                refine wp_iconst (pc := 81) (v := 4) dX12_sumFrom_81 (by decide) ?_
                refine wp_ialdC (pc := 82) (j := 4) dX12_sumFrom_82 (by first | rfl | assumption | exact sh_house (by omega) | exact sh_wish (by omega) | exact sh_wor (by omega) | exact sh_bar (by omega) | exact sh_term (by omega) | exact sh_sheet (by omega) | exact sh_items (by omega) | exact sh_sums (by omega)) (by decide) (by decide) ?_
                refine wp_aload_n (pc := 83) dX12_sumFrom_83 (by first | rfl | assumption | (repeat first | assumption | rfl | refine aG_n ?_ rfl rfl)) ?_
                refine wp_getR (pc := 84) dX12_sumFrom_84 fl_12_119 (by first | rfl | assumption | exact sh_house (by omega) | exact sh_wish (by omega) | exact sh_wor (by omega) | exact sh_bar (by omega) | exact sh_term (by omega) | exact sh_sheet (by omega) | exact sh_items (by omega) | exact sh_sums (by omega)) rfl ?_
                refine wp_iconst (pc := 87) (v := 5) dX12_sumFrom_87 (by decide) ?_
                refine wp_ialdC (pc := 88) (j := 5) dX12_sumFrom_88 (by first | rfl | assumption | exact sh_house (by omega) | exact sh_wish (by omega) | exact sh_wor (by omega) | exact sh_bar (by omega) | exact sh_term (by omega) | exact sh_sheet (by omega) | exact sh_items (by omega) | exact sh_sums (by omega)) (by decide) (by decide) ?_
                refine wp_cS (pc := 89) dX12_sumFrom_89 lk_12_344 rfl rfl rfl (c_X12_sumOf (aK_i ?_))
                refine wp_aload_n (pc := 92) dX12_sumFrom_92 (by first | rfl | assumption | (repeat first | assumption | rfl | refine aG_n ?_ rfl rfl)) ?_
                refine wp_getR (pc := 93) dX12_sumFrom_93 fl_12_119 (by first | rfl | assumption | exact sh_house (by omega) | exact sh_wish (by omega) | exact sh_wor (by omega) | exact sh_bar (by omega) | exact sh_term (by omega) | exact sh_sheet (by omega) | exact sh_items (by omega) | exact sh_sums (by omega)) rfl ?_
                refine wp_bipush (pc := 96) (v := 6) dX12_sumFrom_96 (by decide) ?_
                refine wp_ialdC (pc := 98) (j := 6) dX12_sumFrom_98 (by first | rfl | assumption | exact sh_house (by omega) | exact sh_wish (by omega) | exact sh_wor (by omega) | exact sh_bar (by omega) | exact sh_term (by omega) | exact sh_sheet (by omega) | exact sh_items (by omega) | exact sh_sums (by omega)) (by decide) (by decide) ?_
                refine wp_aload_n (pc := 99) dX12_sumFrom_99 (by first | rfl | assumption | (repeat first | assumption | rfl | refine aG_n ?_ rfl rfl)) ?_
                refine wp_getR (pc := 100) dX12_sumFrom_100 fl_12_119 (by first | rfl | assumption | exact sh_house (by omega) | exact sh_wish (by omega) | exact sh_wor (by omega) | exact sh_bar (by omega) | exact sh_term (by omega) | exact sh_sheet (by omega) | exact sh_items (by omega) | exact sh_sums (by omega)) rfl ?_
                refine wp_bipush (pc := 103) (v := 7) dX12_sumFrom_103 (by decide) ?_
                refine wp_ialdC (pc := 105) (j := 7) dX12_sumFrom_105 (by first | rfl | assumption | exact sh_house (by omega) | exact sh_wish (by omega) | exact sh_wor (by omega) | exact sh_bar (by omega) | exact sh_term (by omega) | exact sh_sheet (by omega) | exact sh_items (by omega) | exact sh_sums (by omega)) (by decide) (by decide) ?_
                refine wp_cS (pc := 106) dX12_sumFrom_106 lk_12_344 rfl rfl rfl (c_X12_sumOf (aK_i ?_))
                refine wp_cS (pc := 109) dX12_sumFrom_109 lk_12_344 rfl rfl rfl (c_X12_sumOf (aK_i ?_))
                refine wp_cS (pc := 112) dX12_sumFrom_112 lk_12_344 rfl rfl rfl (c_X12_sumOf (aK_i ?_))
                refine wp_iretK (pc := 115) dX12_sumFrom_115 rfl (by first | rfl | decide | assumption) ?_
                refine wp_icmp_ne (pc := 81) (tgt := 88) dX12_proves_81 rfl (fun q => absurd (by rw [root_eq hR]; exact c5) q) (fun _ => ?_)
                refine wp_iconst (pc := 84) (v := 1) dX12_proves_84 (by decide) ?_
                refine wp_goto (pc := 85) (tgt := 89) dX12_proves_85 rfl ?_
                refine wp_ireturn (pc := 89) dX12_proves_89 rfl (by first | rfl | decide | assumption) ?_
                exact k' _ hI
              · skip
                refine wp_iload_n (pc := 0) dX11_proves_0 (by first | rfl | assumption | (repeat first | assumption | rfl | refine aG_n ?_ rfl rfl)) ?_
                refine wp_iconst (pc := 1) (v := 0) dX11_proves_1 (by decide) ?_
                refine wp_bipush (pc := 2) (v := 7) dX11_proves_2 (by decide) ?_
                refine wp_cS (pc := 4) dX11_proves_4 lk_11_112 rfl rfl rfl (c_X11_isWithin (fun _ => aK_i ?_) (fun q => absurd c0 q))
                refine wp_if_eq (pc := 7) (tgt := 40) dX11_proves_7 rfl (fun q => absurd q (by decide)) (fun _ => ?_)
                refine wp_iload_n (pc := 10) dX11_proves_10 (by first | rfl | assumption | (repeat first | assumption | rfl | refine aG_n ?_ rfl rfl)) ?_
                refine wp_cS (pc := 11) dX11_proves_11 lk_11_355 rfl rfl rfl (c_X11_isSum (fun _ => aK_i ?_) (fun q => absurd c1 q))
                refine wp_if_eq (pc := 14) (tgt := 40) dX11_proves_14 rfl (fun q => absurd q (by decide)) (fun _ => ?_)
                refine wp_iload_n (pc := 17) dX11_proves_17 (by first | rfl | assumption | (repeat first | assumption | rfl | refine aG_n ?_ rfl rfl)) ?_
                refine wp_cS (pc := 18) dX11_proves_18 lk_11_355 rfl rfl rfl (c_X11_isSum (fun _ => aK_i ?_) (fun q => absurd c2 q))
                refine wp_if_eq (pc := 21) (tgt := 40) dX11_proves_21 rfl (fun q => absurd q (by decide)) (fun _ => ?_)
                refine wp_iload (pc := 24) dX11_proves_24 (by first | rfl | assumption | (repeat first | assumption | rfl | refine aG_n ?_ rfl rfl)) ?_
                refine wp_cS (pc := 26) dX11_proves_26 lk_11_355 rfl rfl rfl (c_X11_isSum (fun _ => aK_i ?_) (fun q => absurd c3 q))
                refine wp_if_eq (pc := 29) (tgt := 40) dX11_proves_29 rfl (fun q => absurd q (by decide)) (fun _ => ?_)
                refine wp_iload (pc := 32) dX11_proves_32 (by first | rfl | assumption | (repeat first | assumption | rfl | refine aG_n ?_ rfl rfl)) ?_
                refine wp_cS (pc := 34) dX11_proves_34 lk_11_355 rfl rfl rfl (c_X11_isSum (fun _ => aK_i ?_) (fun q => absurd c4 q))
                refine wp_if_ne (pc := 37) (tgt := 42) dX11_proves_37 rfl (fun _ => ?_) (fun q => absurd q (by decide))
                refine wp_iload_n (pc := 42) dX11_proves_42 (by first | rfl | assumption | (repeat first | assumption | rfl | refine aG_n ?_ rfl rfl)) ?_
                refine wp_iload_n (pc := 43) dX11_proves_43 (by first | rfl | assumption | (repeat first | assumption | rfl | refine aG_n ?_ rfl rfl)) ?_
                refine wp_iload_n (pc := 44) dX11_proves_44 (by first | rfl | assumption | (repeat first | assumption | rfl | refine aG_n ?_ rfl rfl)) ?_
                refine wp_cS (pc := 45) dX11_proves_45 lk_11_358 rfl rfl rfl ?_
                refine wp_iload_n (pc := 0) dX5_climb_0 (by first | rfl | assumption | (repeat first | assumption | rfl | refine aG_n ?_ rfl rfl)) ?_
                refine wp_iconst (pc := 1) (v := 1) dX5_climb_1 (by decide) ?_
                refine wp_iand (pc := 2) dX5_climb_2 ?_
                refine wp_if_ne (pc := 3) (tgt := 14) dX5_climb_3 rfl (fun q => absurd q (by decide)) (fun _ => ?_)
                refine wp_iload_n (pc := 6) dX5_climb_6 (by first | rfl | assumption | (repeat first | assumption | rfl | refine aG_n ?_ rfl rfl)) ?_
                refine wp_iload_n (pc := 7) dX5_climb_7 (by first | rfl | assumption | (repeat first | assumption | rfl | refine aG_n ?_ rfl rfl)) ?_
                refine wp_cS (pc := 8) dX5_climb_8 lk_5_13 rfl rfl rfl (c_X5_sum (aK_i ?_))
                refine wp_goto (pc := 11) (tgt := 19) dX5_climb_11 rfl ?_
                refine wp_iretK (pc := 19) dX5_climb_19 rfl (by first | rfl | decide | assumption) ?_
                refine wp_istore (pc := 48) dX11_proves_48 (by decide) ?_
                refine wp_iload_n (pc := 50) dX11_proves_50 (by first | rfl | assumption | (repeat first | assumption | rfl | refine aG_n ?_ rfl rfl)) ?_
                refine wp_iconst (pc := 51) (v := 1) dX11_proves_51 (by decide) ?_
                refine wp_ishr (pc := 52) dX11_proves_52 ?_
                refine wp_iload (pc := 53) dX11_proves_53 (by first | rfl | assumption | (repeat first | assumption | rfl | refine aG_n ?_ rfl rfl)) ?_
                refine wp_iload (pc := 55) dX11_proves_55 (by first | rfl | assumption | (repeat first | assumption | rfl | refine aG_n ?_ rfl rfl)) ?_
                refine wp_cS (pc := 57) dX11_proves_57 lk_11_358 rfl rfl rfl ?_
                refine wp_iload_n (pc := 0) dX5_climb_0 (by first | rfl | assumption | (repeat first | assumption | rfl | refine aG_n ?_ rfl rfl)) ?_
                refine wp_iconst (pc := 1) (v := 1) dX5_climb_1 (by decide) ?_
                refine wp_iand (pc := 2) dX5_climb_2 ?_
                refine wp_if_ne (pc := 3) (tgt := 14) dX5_climb_3 rfl (fun q => absurd q (by decide)) (fun _ => ?_)
                refine wp_iload_n (pc := 6) dX5_climb_6 (by first | rfl | assumption | (repeat first | assumption | rfl | refine aG_n ?_ rfl rfl)) ?_
                refine wp_iload_n (pc := 7) dX5_climb_7 (by first | rfl | assumption | (repeat first | assumption | rfl | refine aG_n ?_ rfl rfl)) ?_
                refine wp_cS (pc := 8) dX5_climb_8 lk_5_13 rfl rfl rfl (c_X5_sum (aK_i ?_))
                refine wp_goto (pc := 11) (tgt := 19) dX5_climb_11 rfl ?_
                refine wp_iretK (pc := 19) dX5_climb_19 rfl (by first | rfl | decide | assumption) ?_
                refine wp_istore (pc := 60) dX11_proves_60 (by decide) ?_
                refine wp_iload_n (pc := 62) dX11_proves_62 (by first | rfl | assumption | (repeat first | assumption | rfl | refine aG_n ?_ rfl rfl)) ?_
                refine wp_iconst (pc := 63) (v := 2) dX11_proves_63 (by decide) ?_
                refine wp_ishr (pc := 64) dX11_proves_64 ?_
                refine wp_iload (pc := 65) dX11_proves_65 (by first | rfl | assumption | (repeat first | assumption | rfl | refine aG_n ?_ rfl rfl)) ?_
                refine wp_iload (pc := 67) dX11_proves_67 (by first | rfl | assumption | (repeat first | assumption | rfl | refine aG_n ?_ rfl rfl)) ?_
                refine wp_cS (pc := 69) dX11_proves_69 lk_11_358 rfl rfl rfl ?_
                refine wp_iload_n (pc := 0) dX5_climb_0 (by first | rfl | assumption | (repeat first | assumption | rfl | refine aG_n ?_ rfl rfl)) ?_
                refine wp_iconst (pc := 1) (v := 1) dX5_climb_1 (by decide) ?_
                refine wp_iand (pc := 2) dX5_climb_2 ?_
                refine wp_if_ne (pc := 3) (tgt := 14) dX5_climb_3 rfl (fun _ => ?_) (fun q => absurd q (by decide))
                refine wp_iload_n (pc := 14) dX5_climb_14 (by first | rfl | assumption | (repeat first | assumption | rfl | refine aG_n ?_ rfl rfl)) ?_
                refine wp_iload_n (pc := 15) dX5_climb_15 (by first | rfl | assumption | (repeat first | assumption | rfl | refine aG_n ?_ rfl rfl)) ?_
                refine wp_cS (pc := 16) dX5_climb_16 lk_5_13 rfl rfl rfl (c_X5_sum (aK_i ?_))
                refine wp_iretK (pc := 19) dX5_climb_19 rfl (by first | rfl | decide | assumption) ?_
                refine wp_istore (pc := 72) dX11_proves_72 (by decide) ?_
                refine wp_iload (pc := 74) dX11_proves_74 (by first | rfl | assumption | (repeat first | assumption | rfl | refine aG_n ?_ rfl rfl)) ?_
                refine wp_aload_n (pc := 76) dX11_proves_76 (by first | rfl | assumption | (repeat first | assumption | rfl | refine aG_n ?_ rfl rfl)) ?_
                refine wp_getR (pc := 77) dX11_proves_77 fl_11_60 (by first | rfl | assumption | exact sh_house (by omega) | exact sh_wish (by omega) | exact sh_wor (by omega) | exact sh_bar (by omega) | exact sh_term (by omega) | exact sh_sheet (by omega) | exact sh_items (by omega) | exact sh_sums (by omega)) rfl ?_
                refine wp_getR (pc := 80) dX11_proves_80 fl_11_349 (by first | rfl | assumption | exact sh_house (by omega) | exact sh_wish (by omega) | exact sh_wor (by omega) | exact sh_bar (by omega) | exact sh_term (by omega) | exact sh_sheet (by omega) | exact sh_items (by omega) | exact sh_sums (by omega)) rfl ?_
                refine wp_iconst (pc := 83) (v := 1) dX11_proves_83 (by decide) ?_
                refine wp_ialdC (pc := 84) (j := 1) dX11_proves_84 (by first | rfl | assumption | exact sh_house (by omega) | exact sh_wish (by omega) | exact sh_wor (by omega) | exact sh_bar (by omega) | exact sh_term (by omega) | exact sh_sheet (by omega) | exact sh_items (by omega) | exact sh_sums (by omega)) (by decide) (by decide) ?_
                refine wp_icmp_ne (pc := 85) (tgt := 92) dX11_proves_85 rfl (fun _ => ?_) (fun q => absurd q c5)
                refine wp_iconst (pc := 92) (v := 0) dX11_proves_92 (by decide) ?_
                refine wp_cS (pc := 93) dX11_proves_93 lk_11_148 rfl rfl rfl ?_
                refine wp_iload_n (pc := 0) dX11_oneIf_0 (by first | rfl | assumption | (repeat first | assumption | rfl | refine aG_n ?_ rfl rfl)) ?_
                refine wp_if_eq (pc := 1) (tgt := 8) dX11_oneIf_1 rfl (fun _ => ?_) (fun q => absurd q (by decide))
                refine wp_iconst (pc := 8) (v := 0) dX11_oneIf_8 (by decide) ?_
                refine wp_iretK (pc := 9) dX11_oneIf_9 rfl (by first | rfl | decide | assumption) ?_
                refine wp_ireturn (pc := 96) dX11_proves_96 rfl (by first | rfl | decide | assumption) ?_
                refine k _ _ (fun Q' k' => ?_)
                refine wp_iload_n (pc := 0) dX12_proves_0 (by first | rfl | assumption | (repeat first | assumption | rfl | refine aG_n ?_ rfl rfl)) ?_
                refine wp_i2l (pc := 1) dX12_proves_1 ?_
                refine wp_lconst (pc := 2) (v := 0) dX12_proves_2 (by decide) ?_
                refine wp_ldc2 (pc := 3) dX12_proves_3 cl_12_347 ?_
                refine wp_cS (pc := 6) dX12_proves_6 lk_12_133 rfl rfl rfl (c_X12_in (fun _ => aK_i ?_) (fun q => absurd (by rw [w_int]; exact c0) q))
                refine wp_if_eq (pc := 9) (tgt := 42) dX12_proves_9 rfl (fun q => absurd q (by decide)) (fun _ => ?_)
                refine wp_iload_n (pc := 12) dX12_proves_12 (by first | rfl | assumption | (repeat first | assumption | rfl | refine aG_n ?_ rfl rfl)) ?_
                refine wp_cS (pc := 13) dX12_proves_13 lk_12_354 rfl rfl rfl (c_X12_isSum (fun _ => aK_i ?_) (fun q => absurd c1 q))
                refine wp_if_eq (pc := 16) (tgt := 42) dX12_proves_16 rfl (fun q => absurd q (by decide)) (fun _ => ?_)
                refine wp_iload_n (pc := 19) dX12_proves_19 (by first | rfl | assumption | (repeat first | assumption | rfl | refine aG_n ?_ rfl rfl)) ?_
                refine wp_cS (pc := 20) dX12_proves_20 lk_12_354 rfl rfl rfl (c_X12_isSum (fun _ => aK_i ?_) (fun q => absurd c2 q))
                refine wp_if_eq (pc := 23) (tgt := 42) dX12_proves_23 rfl (fun q => absurd q (by decide)) (fun _ => ?_)
                refine wp_iload (pc := 26) dX12_proves_26 (by first | rfl | assumption | (repeat first | assumption | rfl | refine aG_n ?_ rfl rfl)) ?_
                refine wp_cS (pc := 28) dX12_proves_28 lk_12_354 rfl rfl rfl (c_X12_isSum (fun _ => aK_i ?_) (fun q => absurd c3 q))
                refine wp_if_eq (pc := 31) (tgt := 42) dX12_proves_31 rfl (fun q => absurd q (by decide)) (fun _ => ?_)
                refine wp_iload (pc := 34) dX12_proves_34 (by first | rfl | assumption | (repeat first | assumption | rfl | refine aG_n ?_ rfl rfl)) ?_
                refine wp_cS (pc := 36) dX12_proves_36 lk_12_354 rfl rfl rfl (c_X12_isSum (fun _ => aK_i ?_) (fun q => absurd c4 q))
                refine wp_if_ne (pc := 39) (tgt := 44) dX12_proves_39 rfl (fun _ => ?_) (fun q => absurd q (by decide))
                refine wp_iload_n (pc := 44) dX12_proves_44 (by first | rfl | assumption | (repeat first | assumption | rfl | refine aG_n ?_ rfl rfl)) ?_
                refine wp_iload_n (pc := 45) dX12_proves_45 (by first | rfl | assumption | (repeat first | assumption | rfl | refine aG_n ?_ rfl rfl)) ?_
                refine wp_iload_n (pc := 46) dX12_proves_46 (by first | rfl | assumption | (repeat first | assumption | rfl | refine aG_n ?_ rfl rfl)) ?_
                refine wp_cS (pc := 47) dX12_proves_47 lk_12_357 rfl rfl rfl ?_
                refine wp_iload_n (pc := 0) dX12_sumBeside_0 (by first | rfl | assumption | (repeat first | assumption | rfl | refine aG_n ?_ rfl rfl)) ?_
                refine wp_iconst (pc := 1) (v := 2) dX12_sumBeside_1 (by decide) ?_
                refine wp_irem (pc := 2) dX12_sumBeside_2 (by decide) ?_
                refine wp_if_ne (pc := 3) (tgt := 14) dX12_sumBeside_3 rfl (fun q => absurd q (by decide)) (fun _ => ?_)
                refine wp_iload_n (pc := 6) dX12_sumBeside_6 (by first | rfl | assumption | (repeat first | assumption | rfl | refine aG_n ?_ rfl rfl)) ?_
                refine wp_iload_n (pc := 7) dX12_sumBeside_7 (by first | rfl | assumption | (repeat first | assumption | rfl | refine aG_n ?_ rfl rfl)) ?_
                refine wp_cS (pc := 8) dX12_sumBeside_8 lk_12_344 rfl rfl rfl (c_X12_sumOf (aK_i ?_))
                refine wp_goto (pc := 11) (tgt := 19) dX12_sumBeside_11 rfl ?_
                refine wp_iretK (pc := 19) dX12_sumBeside_19 rfl (by first | rfl | decide | assumption) ?_
                refine wp_istore (pc := 50) dX12_proves_50 (by decide) ?_
                refine wp_iload_n (pc := 52) dX12_proves_52 (by first | rfl | assumption | (repeat first | assumption | rfl | refine aG_n ?_ rfl rfl)) ?_
                refine wp_iconst (pc := 53) (v := 2) dX12_proves_53 (by decide) ?_
                refine wp_idiv (pc := 54) dX12_proves_54 (by decide) ?_
                refine wp_iload (pc := 55) dX12_proves_55 (by first | rfl | assumption | (repeat first | assumption | rfl | refine aG_n ?_ rfl rfl)) ?_
                refine wp_iload (pc := 57) dX12_proves_57 (by first | rfl | assumption | (repeat first | assumption | rfl | refine aG_n ?_ rfl rfl)) ?_
                refine wp_cS (pc := 59) dX12_proves_59 lk_12_357 rfl rfl rfl ?_
                refine wp_iload_n (pc := 0) dX12_sumBeside_0 (by first | rfl | assumption | (repeat first | assumption | rfl | refine aG_n ?_ rfl rfl)) ?_
                refine wp_iconst (pc := 1) (v := 2) dX12_sumBeside_1 (by decide) ?_
                refine wp_irem (pc := 2) dX12_sumBeside_2 (by decide) ?_
                refine wp_if_ne (pc := 3) (tgt := 14) dX12_sumBeside_3 rfl (fun q => absurd q (by decide)) (fun _ => ?_)
                refine wp_iload_n (pc := 6) dX12_sumBeside_6 (by first | rfl | assumption | (repeat first | assumption | rfl | refine aG_n ?_ rfl rfl)) ?_
                refine wp_iload_n (pc := 7) dX12_sumBeside_7 (by first | rfl | assumption | (repeat first | assumption | rfl | refine aG_n ?_ rfl rfl)) ?_
                refine wp_cS (pc := 8) dX12_sumBeside_8 lk_12_344 rfl rfl rfl (c_X12_sumOf (aK_i ?_))
                refine wp_goto (pc := 11) (tgt := 19) dX12_sumBeside_11 rfl ?_
                refine wp_iretK (pc := 19) dX12_sumBeside_19 rfl (by first | rfl | decide | assumption) ?_
                refine wp_istore (pc := 62) dX12_proves_62 (by decide) ?_
                refine wp_iload_n (pc := 64) dX12_proves_64 (by first | rfl | assumption | (repeat first | assumption | rfl | refine aG_n ?_ rfl rfl)) ?_
                refine wp_iconst (pc := 65) (v := 4) dX12_proves_65 (by decide) ?_
                refine wp_idiv (pc := 66) dX12_proves_66 (by decide) ?_
                refine wp_iload (pc := 67) dX12_proves_67 (by first | rfl | assumption | (repeat first | assumption | rfl | refine aG_n ?_ rfl rfl)) ?_
                refine wp_iload (pc := 69) dX12_proves_69 (by first | rfl | assumption | (repeat first | assumption | rfl | refine aG_n ?_ rfl rfl)) ?_
                refine wp_cS (pc := 71) dX12_proves_71 lk_12_357 rfl rfl rfl ?_
                refine wp_iload_n (pc := 0) dX12_sumBeside_0 (by first | rfl | assumption | (repeat first | assumption | rfl | refine aG_n ?_ rfl rfl)) ?_
                refine wp_iconst (pc := 1) (v := 2) dX12_sumBeside_1 (by decide) ?_
                refine wp_irem (pc := 2) dX12_sumBeside_2 (by decide) ?_
                refine wp_if_ne (pc := 3) (tgt := 14) dX12_sumBeside_3 rfl (fun _ => ?_) (fun q => absurd q (by decide))
                refine wp_iload_n (pc := 14) dX12_sumBeside_14 (by first | rfl | assumption | (repeat first | assumption | rfl | refine aG_n ?_ rfl rfl)) ?_
                refine wp_iload_n (pc := 15) dX12_sumBeside_15 (by first | rfl | assumption | (repeat first | assumption | rfl | refine aG_n ?_ rfl rfl)) ?_
                refine wp_cS (pc := 16) dX12_sumBeside_16 lk_12_344 rfl rfl rfl (c_X12_sumOf (aK_i ?_))
                refine wp_iretK (pc := 19) dX12_sumBeside_19 rfl (by first | rfl | decide | assumption) ?_
                refine wp_aload_n (pc := 74) dX12_proves_74 (by first | rfl | assumption | (repeat first | assumption | rfl | refine aG_n ?_ rfl rfl)) ?_
                refine wp_iconst (pc := 75) (v := 0) dX12_proves_75 (by decide) ?_
                refine wp_bipush (pc := 76) (v := 8) dX12_proves_76 (by decide) ?_
                refine wp_cV (pc := 78) dX12_proves_78 lk_12_349 rfl (by decide) rfl (by first | rfl | assumption | exact sh_house (by omega) | exact sh_wish (by omega) | exact sh_wor (by omega) | exact sh_bar (by omega) | exact sh_term (by omega) | exact sh_sheet (by omega) | exact sh_items (by omega) | exact sh_sums (by omega)) rfl rfl ?_
                refine wp_aload_n (pc := 0) dX12_sumFrom_0 (by first | rfl | assumption | (repeat first | assumption | rfl | refine aG_n ?_ rfl rfl)) ?_
                refine wp_getR (pc := 1) dX12_sumFrom_1 fl_12_119 (by first | rfl | assumption | exact sh_house (by omega) | exact sh_wish (by omega) | exact sh_wor (by omega) | exact sh_bar (by omega) | exact sh_term (by omega) | exact sh_sheet (by omega) | exact sh_items (by omega) | exact sh_sums (by omega)) rfl ?_
                refine wp_iload_n (pc := 4) dX12_sumFrom_4 (by first | rfl | assumption | (repeat first | assumption | rfl | refine aG_n ?_ rfl rfl)) ?_
                refine wp_ialdC (pc := 5) (j := 0) dX12_sumFrom_5 (by first | rfl | assumption | exact sh_house (by omega) | exact sh_wish (by omega) | exact sh_wor (by omega) | exact sh_bar (by omega) | exact sh_term (by omega) | exact sh_sheet (by omega) | exact sh_items (by omega) | exact sh_sums (by omega)) (by decide) (by decide) ?_
                refine wp_aload_n (pc := 6) dX12_sumFrom_6 (by first | rfl | assumption | (repeat first | assumption | rfl | refine aG_n ?_ rfl rfl)) ?_
                refine wp_getR (pc := 7) dX12_sumFrom_7 fl_12_119 (by first | rfl | assumption | exact sh_house (by omega) | exact sh_wish (by omega) | exact sh_wor (by omega) | exact sh_bar (by omega) | exact sh_term (by omega) | exact sh_sheet (by omega) | exact sh_items (by omega) | exact sh_sums (by omega)) rfl ?_
                refine wp_iload_n (pc := 10) dX12_sumFrom_10 (by first | rfl | assumption | (repeat first | assumption | rfl | refine aG_n ?_ rfl rfl)) ?_
                refine wp_iconst (pc := 11) (v := 1) dX12_sumFrom_11 (by decide) ?_
                refine wp_iadd (pc := 12) dX12_sumFrom_12 ?_
                refine wp_bipush (pc := 13) (v := 8) dX12_sumFrom_13 (by decide) ?_
                refine wp_irem (pc := 15) dX12_sumFrom_15 (by decide) ?_
                refine wp_ialdC (pc := 16) (j := 1) dX12_sumFrom_16 (by first | rfl | assumption | exact sh_house (by omega) | exact sh_wish (by omega) | exact sh_wor (by omega) | exact sh_bar (by omega) | exact sh_term (by omega) | exact sh_sheet (by omega) | exact sh_items (by omega) | exact sh_sums (by omega)) (by decide) (by decide) ?_
                refine wp_cS (pc := 17) dX12_sumFrom_17 lk_12_344 rfl rfl rfl (c_X12_sumOf (aK_i ?_))
                refine wp_istore_n (pc := 20) dX12_sumFrom_20 (by decide) ?_
                refine wp_iload_n (pc := 21) dX12_sumFrom_21 (by first | rfl | assumption | (repeat first | assumption | rfl | refine aG_n ?_ rfl rfl)) ?_
                refine wp_iconst (pc := 22) (v := 4) dX12_sumFrom_22 (by decide) ?_
                refine wp_icmp_ge (pc := 23) (tgt := 42) dX12_sumFrom_23 rfl (fun _ => ?_) (fun q => absurd q (by decide))
                refine wp_iload_n (pc := 42) dX12_sumFrom_42 (by first | rfl | assumption | (repeat first | assumption | rfl | refine aG_n ?_ rfl rfl)) ?_
                refine wp_aload_n (pc := 43) dX12_sumFrom_43 (by first | rfl | assumption | (repeat first | assumption | rfl | refine aG_n ?_ rfl rfl)) ?_
                refine wp_getR (pc := 44) dX12_sumFrom_44 fl_12_119 (by first | rfl | assumption | exact sh_house (by omega) | exact sh_wish (by omega) | exact sh_wor (by omega) | exact sh_bar (by omega) | exact sh_term (by omega) | exact sh_sheet (by omega) | exact sh_items (by omega) | exact sh_sums (by omega)) rfl ?_
                refine wp_iload_n (pc := 47) dX12_sumFrom_47 (by first | rfl | assumption | (repeat first | assumption | rfl | refine aG_n ?_ rfl rfl)) ?_
                refine wp_iconst (pc := 48) (v := 2) dX12_sumFrom_48 (by decide) ?_
                refine wp_iadd (pc := 49) dX12_sumFrom_49 ?_
                refine wp_ialdC (pc := 50) (j := 2) dX12_sumFrom_50 (by first | rfl | assumption | exact sh_house (by omega) | exact sh_wish (by omega) | exact sh_wor (by omega) | exact sh_bar (by omega) | exact sh_term (by omega) | exact sh_sheet (by omega) | exact sh_items (by omega) | exact sh_sums (by omega)) (by decide) (by decide) ?_
                refine wp_aload_n (pc := 51) dX12_sumFrom_51 (by first | rfl | assumption | (repeat first | assumption | rfl | refine aG_n ?_ rfl rfl)) ?_
                refine wp_getR (pc := 52) dX12_sumFrom_52 fl_12_119 (by first | rfl | assumption | exact sh_house (by omega) | exact sh_wish (by omega) | exact sh_wor (by omega) | exact sh_bar (by omega) | exact sh_term (by omega) | exact sh_sheet (by omega) | exact sh_items (by omega) | exact sh_sums (by omega)) rfl ?_
                refine wp_iload_n (pc := 55) dX12_sumFrom_55 (by first | rfl | assumption | (repeat first | assumption | rfl | refine aG_n ?_ rfl rfl)) ?_
                refine wp_iconst (pc := 56) (v := 3) dX12_sumFrom_56 (by decide) ?_
                refine wp_iadd (pc := 57) dX12_sumFrom_57 ?_
                refine wp_ialdC (pc := 58) (j := 3) dX12_sumFrom_58 (by first | rfl | assumption | exact sh_house (by omega) | exact sh_wish (by omega) | exact sh_wor (by omega) | exact sh_bar (by omega) | exact sh_term (by omega) | exact sh_sheet (by omega) | exact sh_items (by omega) | exact sh_sums (by omega)) (by decide) (by decide) ?_
                refine wp_cS (pc := 59) dX12_sumFrom_59 lk_12_344 rfl rfl rfl (c_X12_sumOf (aK_i ?_))
                refine wp_cS (pc := 62) dX12_sumFrom_62 lk_12_344 rfl rfl rfl (c_X12_sumOf (aK_i ?_))
                refine wp_istore (pc := 65) dX12_sumFrom_65 (by decide) ?_
                refine wp_iload_n (pc := 67) dX12_sumFrom_67 (by first | rfl | assumption | (repeat first | assumption | rfl | refine aG_n ?_ rfl rfl)) ?_
                refine wp_iconst (pc := 68) (v := 4) dX12_sumFrom_68 (by decide) ?_
                refine wp_icmp_ne (pc := 69) (tgt := 75) dX12_sumFrom_69 rfl (fun _ => ?_) (fun q => absurd q (by decide))
                refine wp_iload (pc := 75) dX12_sumFrom_75 (by first | rfl | assumption | (repeat first | assumption | rfl | refine aG_n ?_ rfl rfl)) ?_
                refine wp_aload_n (pc := 77) dX12_sumFrom_77 (by first | rfl | assumption | (repeat first | assumption | rfl | refine aG_n ?_ rfl rfl)) ?_
                refine wp_getR (pc := 78) dX12_sumFrom_78 fl_12_119 (by first | rfl | assumption | exact sh_house (by omega) | exact sh_wish (by omega) | exact sh_wor (by omega) | exact sh_bar (by omega) | exact sh_term (by omega) | exact sh_sheet (by omega) | exact sh_items (by omega) | exact sh_sums (by omega)) rfl ?_
                refine wp_iconst (pc := 81) (v := 4) dX12_sumFrom_81 (by decide) ?_
                refine wp_ialdC (pc := 82) (j := 4) dX12_sumFrom_82 (by first | rfl | assumption | exact sh_house (by omega) | exact sh_wish (by omega) | exact sh_wor (by omega) | exact sh_bar (by omega) | exact sh_term (by omega) | exact sh_sheet (by omega) | exact sh_items (by omega) | exact sh_sums (by omega)) (by decide) (by decide) ?_
                refine wp_aload_n (pc := 83) dX12_sumFrom_83 (by first | rfl | assumption | (repeat first | assumption | rfl | refine aG_n ?_ rfl rfl)) ?_
                refine wp_getR (pc := 84) dX12_sumFrom_84 fl_12_119 (by first | rfl | assumption | exact sh_house (by omega) | exact sh_wish (by omega) | exact sh_wor (by omega) | exact sh_bar (by omega) | exact sh_term (by omega) | exact sh_sheet (by omega) | exact sh_items (by omega) | exact sh_sums (by omega)) rfl ?_
                refine wp_iconst (pc := 87) (v := 5) dX12_sumFrom_87 (by decide) ?_
                refine wp_ialdC (pc := 88) (j := 5) dX12_sumFrom_88 (by first | rfl | assumption | exact sh_house (by omega) | exact sh_wish (by omega) | exact sh_wor (by omega) | exact sh_bar (by omega) | exact sh_term (by omega) | exact sh_sheet (by omega) | exact sh_items (by omega) | exact sh_sums (by omega)) (by decide) (by decide) ?_
                refine wp_cS (pc := 89) dX12_sumFrom_89 lk_12_344 rfl rfl rfl (c_X12_sumOf (aK_i ?_))
                refine wp_aload_n (pc := 92) dX12_sumFrom_92 (by first | rfl | assumption | (repeat first | assumption | rfl | refine aG_n ?_ rfl rfl)) ?_
                refine wp_getR (pc := 93) dX12_sumFrom_93 fl_12_119 (by first | rfl | assumption | exact sh_house (by omega) | exact sh_wish (by omega) | exact sh_wor (by omega) | exact sh_bar (by omega) | exact sh_term (by omega) | exact sh_sheet (by omega) | exact sh_items (by omega) | exact sh_sums (by omega)) rfl ?_
                refine wp_bipush (pc := 96) (v := 6) dX12_sumFrom_96 (by decide) ?_
                refine wp_ialdC (pc := 98) (j := 6) dX12_sumFrom_98 (by first | rfl | assumption | exact sh_house (by omega) | exact sh_wish (by omega) | exact sh_wor (by omega) | exact sh_bar (by omega) | exact sh_term (by omega) | exact sh_sheet (by omega) | exact sh_items (by omega) | exact sh_sums (by omega)) (by decide) (by decide) ?_
                refine wp_aload_n (pc := 99) dX12_sumFrom_99 (by first | rfl | assumption | (repeat first | assumption | rfl | refine aG_n ?_ rfl rfl)) ?_
                refine wp_getR (pc := 100) dX12_sumFrom_100 fl_12_119 (by first | rfl | assumption | exact sh_house (by omega) | exact sh_wish (by omega) | exact sh_wor (by omega) | exact sh_bar (by omega) | exact sh_term (by omega) | exact sh_sheet (by omega) | exact sh_items (by omega) | exact sh_sums (by omega)) rfl ?_
                refine wp_bipush (pc := 103) (v := 7) dX12_sumFrom_103 (by decide) ?_
                refine wp_ialdC (pc := 105) (j := 7) dX12_sumFrom_105 (by first | rfl | assumption | exact sh_house (by omega) | exact sh_wish (by omega) | exact sh_wor (by omega) | exact sh_bar (by omega) | exact sh_term (by omega) | exact sh_sheet (by omega) | exact sh_items (by omega) | exact sh_sums (by omega)) (by decide) (by decide) ?_
                refine wp_cS (pc := 106) dX12_sumFrom_106 lk_12_344 rfl rfl rfl (c_X12_sumOf (aK_i ?_))
                refine wp_cS (pc := 109) dX12_sumFrom_109 lk_12_344 rfl rfl rfl (c_X12_sumOf (aK_i ?_))
                refine wp_cS (pc := 112) dX12_sumFrom_112 lk_12_344 rfl rfl rfl (c_X12_sumOf (aK_i ?_))
                refine wp_iretK (pc := 115) dX12_sumFrom_115 rfl (by first | rfl | decide | assumption) ?_
                refine wp_icmp_ne (pc := 81) (tgt := 88) dX12_proves_81 rfl (fun _ => ?_) (fun q => absurd q (by rw [root_eq hR]; exact c5))
                refine wp_iconst (pc := 88) (v := 0) dX12_proves_88 (by decide) ?_
                refine wp_ireturn (pc := 89) dX12_proves_89 rfl (by first | rfl | decide | assumption) ?_
                exact k' _ hI
            | 5, _ =>
              by_cases c5 : sm2 (z) (sm2 (sm2 (x) (v)) (y)) = μ.1 53 1
              · skip
                refine wp_iload_n (pc := 0) dX11_proves_0 (by first | rfl | assumption | (repeat first | assumption | rfl | refine aG_n ?_ rfl rfl)) ?_
                refine wp_iconst (pc := 1) (v := 0) dX11_proves_1 (by decide) ?_
                refine wp_bipush (pc := 2) (v := 7) dX11_proves_2 (by decide) ?_
                refine wp_cS (pc := 4) dX11_proves_4 lk_11_112 rfl rfl rfl (c_X11_isWithin (fun _ => aK_i ?_) (fun q => absurd c0 q))
                refine wp_if_eq (pc := 7) (tgt := 40) dX11_proves_7 rfl (fun q => absurd q (by decide)) (fun _ => ?_)
                refine wp_iload_n (pc := 10) dX11_proves_10 (by first | rfl | assumption | (repeat first | assumption | rfl | refine aG_n ?_ rfl rfl)) ?_
                refine wp_cS (pc := 11) dX11_proves_11 lk_11_355 rfl rfl rfl (c_X11_isSum (fun _ => aK_i ?_) (fun q => absurd c1 q))
                refine wp_if_eq (pc := 14) (tgt := 40) dX11_proves_14 rfl (fun q => absurd q (by decide)) (fun _ => ?_)
                refine wp_iload_n (pc := 17) dX11_proves_17 (by first | rfl | assumption | (repeat first | assumption | rfl | refine aG_n ?_ rfl rfl)) ?_
                refine wp_cS (pc := 18) dX11_proves_18 lk_11_355 rfl rfl rfl (c_X11_isSum (fun _ => aK_i ?_) (fun q => absurd c2 q))
                refine wp_if_eq (pc := 21) (tgt := 40) dX11_proves_21 rfl (fun q => absurd q (by decide)) (fun _ => ?_)
                refine wp_iload (pc := 24) dX11_proves_24 (by first | rfl | assumption | (repeat first | assumption | rfl | refine aG_n ?_ rfl rfl)) ?_
                refine wp_cS (pc := 26) dX11_proves_26 lk_11_355 rfl rfl rfl (c_X11_isSum (fun _ => aK_i ?_) (fun q => absurd c3 q))
                refine wp_if_eq (pc := 29) (tgt := 40) dX11_proves_29 rfl (fun q => absurd q (by decide)) (fun _ => ?_)
                refine wp_iload (pc := 32) dX11_proves_32 (by first | rfl | assumption | (repeat first | assumption | rfl | refine aG_n ?_ rfl rfl)) ?_
                refine wp_cS (pc := 34) dX11_proves_34 lk_11_355 rfl rfl rfl (c_X11_isSum (fun _ => aK_i ?_) (fun q => absurd c4 q))
                refine wp_if_ne (pc := 37) (tgt := 42) dX11_proves_37 rfl (fun _ => ?_) (fun q => absurd q (by decide))
                refine wp_iload_n (pc := 42) dX11_proves_42 (by first | rfl | assumption | (repeat first | assumption | rfl | refine aG_n ?_ rfl rfl)) ?_
                refine wp_iload_n (pc := 43) dX11_proves_43 (by first | rfl | assumption | (repeat first | assumption | rfl | refine aG_n ?_ rfl rfl)) ?_
                refine wp_iload_n (pc := 44) dX11_proves_44 (by first | rfl | assumption | (repeat first | assumption | rfl | refine aG_n ?_ rfl rfl)) ?_
                refine wp_cS (pc := 45) dX11_proves_45 lk_11_358 rfl rfl rfl ?_
                refine wp_iload_n (pc := 0) dX5_climb_0 (by first | rfl | assumption | (repeat first | assumption | rfl | refine aG_n ?_ rfl rfl)) ?_
                refine wp_iconst (pc := 1) (v := 1) dX5_climb_1 (by decide) ?_
                refine wp_iand (pc := 2) dX5_climb_2 ?_
                refine wp_if_ne (pc := 3) (tgt := 14) dX5_climb_3 rfl (fun _ => ?_) (fun q => absurd q (by decide))
                refine wp_iload_n (pc := 14) dX5_climb_14 (by first | rfl | assumption | (repeat first | assumption | rfl | refine aG_n ?_ rfl rfl)) ?_
                refine wp_iload_n (pc := 15) dX5_climb_15 (by first | rfl | assumption | (repeat first | assumption | rfl | refine aG_n ?_ rfl rfl)) ?_
                refine wp_cS (pc := 16) dX5_climb_16 lk_5_13 rfl rfl rfl (c_X5_sum (aK_i ?_))
                refine wp_iretK (pc := 19) dX5_climb_19 rfl (by first | rfl | decide | assumption) ?_
                refine wp_istore (pc := 48) dX11_proves_48 (by decide) ?_
                refine wp_iload_n (pc := 50) dX11_proves_50 (by first | rfl | assumption | (repeat first | assumption | rfl | refine aG_n ?_ rfl rfl)) ?_
                refine wp_iconst (pc := 51) (v := 1) dX11_proves_51 (by decide) ?_
                refine wp_ishr (pc := 52) dX11_proves_52 ?_
                refine wp_iload (pc := 53) dX11_proves_53 (by first | rfl | assumption | (repeat first | assumption | rfl | refine aG_n ?_ rfl rfl)) ?_
                refine wp_iload (pc := 55) dX11_proves_55 (by first | rfl | assumption | (repeat first | assumption | rfl | refine aG_n ?_ rfl rfl)) ?_
                refine wp_cS (pc := 57) dX11_proves_57 lk_11_358 rfl rfl rfl ?_
                refine wp_iload_n (pc := 0) dX5_climb_0 (by first | rfl | assumption | (repeat first | assumption | rfl | refine aG_n ?_ rfl rfl)) ?_
                refine wp_iconst (pc := 1) (v := 1) dX5_climb_1 (by decide) ?_
                refine wp_iand (pc := 2) dX5_climb_2 ?_
                refine wp_if_ne (pc := 3) (tgt := 14) dX5_climb_3 rfl (fun q => absurd q (by decide)) (fun _ => ?_)
                refine wp_iload_n (pc := 6) dX5_climb_6 (by first | rfl | assumption | (repeat first | assumption | rfl | refine aG_n ?_ rfl rfl)) ?_
                refine wp_iload_n (pc := 7) dX5_climb_7 (by first | rfl | assumption | (repeat first | assumption | rfl | refine aG_n ?_ rfl rfl)) ?_
                refine wp_cS (pc := 8) dX5_climb_8 lk_5_13 rfl rfl rfl (c_X5_sum (aK_i ?_))
                refine wp_goto (pc := 11) (tgt := 19) dX5_climb_11 rfl ?_
                refine wp_iretK (pc := 19) dX5_climb_19 rfl (by first | rfl | decide | assumption) ?_
                refine wp_istore (pc := 60) dX11_proves_60 (by decide) ?_
                refine wp_iload_n (pc := 62) dX11_proves_62 (by first | rfl | assumption | (repeat first | assumption | rfl | refine aG_n ?_ rfl rfl)) ?_
                refine wp_iconst (pc := 63) (v := 2) dX11_proves_63 (by decide) ?_
                refine wp_ishr (pc := 64) dX11_proves_64 ?_
                refine wp_iload (pc := 65) dX11_proves_65 (by first | rfl | assumption | (repeat first | assumption | rfl | refine aG_n ?_ rfl rfl)) ?_
                refine wp_iload (pc := 67) dX11_proves_67 (by first | rfl | assumption | (repeat first | assumption | rfl | refine aG_n ?_ rfl rfl)) ?_
                refine wp_cS (pc := 69) dX11_proves_69 lk_11_358 rfl rfl rfl ?_
                refine wp_iload_n (pc := 0) dX5_climb_0 (by first | rfl | assumption | (repeat first | assumption | rfl | refine aG_n ?_ rfl rfl)) ?_
                refine wp_iconst (pc := 1) (v := 1) dX5_climb_1 (by decide) ?_
                refine wp_iand (pc := 2) dX5_climb_2 ?_
                refine wp_if_ne (pc := 3) (tgt := 14) dX5_climb_3 rfl (fun _ => ?_) (fun q => absurd q (by decide))
                refine wp_iload_n (pc := 14) dX5_climb_14 (by first | rfl | assumption | (repeat first | assumption | rfl | refine aG_n ?_ rfl rfl)) ?_
                refine wp_iload_n (pc := 15) dX5_climb_15 (by first | rfl | assumption | (repeat first | assumption | rfl | refine aG_n ?_ rfl rfl)) ?_
                refine wp_cS (pc := 16) dX5_climb_16 lk_5_13 rfl rfl rfl (c_X5_sum (aK_i ?_))
                refine wp_iretK (pc := 19) dX5_climb_19 rfl (by first | rfl | decide | assumption) ?_
                refine wp_istore (pc := 72) dX11_proves_72 (by decide) ?_
                refine wp_iload (pc := 74) dX11_proves_74 (by first | rfl | assumption | (repeat first | assumption | rfl | refine aG_n ?_ rfl rfl)) ?_
                refine wp_aload_n (pc := 76) dX11_proves_76 (by first | rfl | assumption | (repeat first | assumption | rfl | refine aG_n ?_ rfl rfl)) ?_
                refine wp_getR (pc := 77) dX11_proves_77 fl_11_60 (by first | rfl | assumption | exact sh_house (by omega) | exact sh_wish (by omega) | exact sh_wor (by omega) | exact sh_bar (by omega) | exact sh_term (by omega) | exact sh_sheet (by omega) | exact sh_items (by omega) | exact sh_sums (by omega)) rfl ?_
                refine wp_getR (pc := 80) dX11_proves_80 fl_11_349 (by first | rfl | assumption | exact sh_house (by omega) | exact sh_wish (by omega) | exact sh_wor (by omega) | exact sh_bar (by omega) | exact sh_term (by omega) | exact sh_sheet (by omega) | exact sh_items (by omega) | exact sh_sums (by omega)) rfl ?_
                refine wp_iconst (pc := 83) (v := 1) dX11_proves_83 (by decide) ?_
                refine wp_ialdC (pc := 84) (j := 1) dX11_proves_84 (by first | rfl | assumption | exact sh_house (by omega) | exact sh_wish (by omega) | exact sh_wor (by omega) | exact sh_bar (by omega) | exact sh_term (by omega) | exact sh_sheet (by omega) | exact sh_items (by omega) | exact sh_sums (by omega)) (by decide) (by decide) ?_
                refine wp_icmp_ne (pc := 85) (tgt := 92) dX11_proves_85 rfl (fun q => absurd c5 q) (fun _ => ?_)
                refine wp_iconst (pc := 88) (v := 1) dX11_proves_88 (by decide) ?_
                refine wp_goto (pc := 89) (tgt := 93) dX11_proves_89 rfl ?_
                refine wp_cS (pc := 93) dX11_proves_93 lk_11_148 rfl rfl rfl ?_
                refine wp_iload_n (pc := 0) dX11_oneIf_0 (by first | rfl | assumption | (repeat first | assumption | rfl | refine aG_n ?_ rfl rfl)) ?_
                refine wp_if_eq (pc := 1) (tgt := 8) dX11_oneIf_1 rfl (fun q => absurd q (by decide)) (fun _ => ?_)
                refine wp_iconst (pc := 4) (v := 1) dX11_oneIf_4 (by decide) ?_
                refine wp_goto (pc := 5) (tgt := 9) dX11_oneIf_5 rfl ?_
                refine wp_iretK (pc := 9) dX11_oneIf_9 rfl (by first | rfl | decide | assumption) ?_
                refine wp_ireturn (pc := 96) dX11_proves_96 rfl (by first | rfl | decide | assumption) ?_
                refine k _ _ (fun Q' k' => ?_)
                refine wp_iload_n (pc := 0) dX12_proves_0 (by first | rfl | assumption | (repeat first | assumption | rfl | refine aG_n ?_ rfl rfl)) ?_
                refine wp_i2l (pc := 1) dX12_proves_1 ?_
                refine wp_lconst (pc := 2) (v := 0) dX12_proves_2 (by decide) ?_
                refine wp_ldc2 (pc := 3) dX12_proves_3 cl_12_347 ?_
                refine wp_cS (pc := 6) dX12_proves_6 lk_12_133 rfl rfl rfl (c_X12_in (fun _ => aK_i ?_) (fun q => absurd (by rw [w_int]; exact c0) q))
                refine wp_if_eq (pc := 9) (tgt := 42) dX12_proves_9 rfl (fun q => absurd q (by decide)) (fun _ => ?_)
                refine wp_iload_n (pc := 12) dX12_proves_12 (by first | rfl | assumption | (repeat first | assumption | rfl | refine aG_n ?_ rfl rfl)) ?_
                refine wp_cS (pc := 13) dX12_proves_13 lk_12_354 rfl rfl rfl (c_X12_isSum (fun _ => aK_i ?_) (fun q => absurd c1 q))
                refine wp_if_eq (pc := 16) (tgt := 42) dX12_proves_16 rfl (fun q => absurd q (by decide)) (fun _ => ?_)
                refine wp_iload_n (pc := 19) dX12_proves_19 (by first | rfl | assumption | (repeat first | assumption | rfl | refine aG_n ?_ rfl rfl)) ?_
                refine wp_cS (pc := 20) dX12_proves_20 lk_12_354 rfl rfl rfl (c_X12_isSum (fun _ => aK_i ?_) (fun q => absurd c2 q))
                refine wp_if_eq (pc := 23) (tgt := 42) dX12_proves_23 rfl (fun q => absurd q (by decide)) (fun _ => ?_)
                refine wp_iload (pc := 26) dX12_proves_26 (by first | rfl | assumption | (repeat first | assumption | rfl | refine aG_n ?_ rfl rfl)) ?_
                refine wp_cS (pc := 28) dX12_proves_28 lk_12_354 rfl rfl rfl (c_X12_isSum (fun _ => aK_i ?_) (fun q => absurd c3 q))
                refine wp_if_eq (pc := 31) (tgt := 42) dX12_proves_31 rfl (fun q => absurd q (by decide)) (fun _ => ?_)
                refine wp_iload (pc := 34) dX12_proves_34 (by first | rfl | assumption | (repeat first | assumption | rfl | refine aG_n ?_ rfl rfl)) ?_
                refine wp_cS (pc := 36) dX12_proves_36 lk_12_354 rfl rfl rfl (c_X12_isSum (fun _ => aK_i ?_) (fun q => absurd c4 q))
                refine wp_if_ne (pc := 39) (tgt := 44) dX12_proves_39 rfl (fun _ => ?_) (fun q => absurd q (by decide))
                refine wp_iload_n (pc := 44) dX12_proves_44 (by first | rfl | assumption | (repeat first | assumption | rfl | refine aG_n ?_ rfl rfl)) ?_
                refine wp_iload_n (pc := 45) dX12_proves_45 (by first | rfl | assumption | (repeat first | assumption | rfl | refine aG_n ?_ rfl rfl)) ?_
                refine wp_iload_n (pc := 46) dX12_proves_46 (by first | rfl | assumption | (repeat first | assumption | rfl | refine aG_n ?_ rfl rfl)) ?_
                refine wp_cS (pc := 47) dX12_proves_47 lk_12_357 rfl rfl rfl ?_
                refine wp_iload_n (pc := 0) dX12_sumBeside_0 (by first | rfl | assumption | (repeat first | assumption | rfl | refine aG_n ?_ rfl rfl)) ?_
                refine wp_iconst (pc := 1) (v := 2) dX12_sumBeside_1 (by decide) ?_
                refine wp_irem (pc := 2) dX12_sumBeside_2 (by decide) ?_
                refine wp_if_ne (pc := 3) (tgt := 14) dX12_sumBeside_3 rfl (fun _ => ?_) (fun q => absurd q (by decide))
                refine wp_iload_n (pc := 14) dX12_sumBeside_14 (by first | rfl | assumption | (repeat first | assumption | rfl | refine aG_n ?_ rfl rfl)) ?_
                refine wp_iload_n (pc := 15) dX12_sumBeside_15 (by first | rfl | assumption | (repeat first | assumption | rfl | refine aG_n ?_ rfl rfl)) ?_
                refine wp_cS (pc := 16) dX12_sumBeside_16 lk_12_344 rfl rfl rfl (c_X12_sumOf (aK_i ?_))
                refine wp_iretK (pc := 19) dX12_sumBeside_19 rfl (by first | rfl | decide | assumption) ?_
                refine wp_istore (pc := 50) dX12_proves_50 (by decide) ?_
                refine wp_iload_n (pc := 52) dX12_proves_52 (by first | rfl | assumption | (repeat first | assumption | rfl | refine aG_n ?_ rfl rfl)) ?_
                refine wp_iconst (pc := 53) (v := 2) dX12_proves_53 (by decide) ?_
                refine wp_idiv (pc := 54) dX12_proves_54 (by decide) ?_
                refine wp_iload (pc := 55) dX12_proves_55 (by first | rfl | assumption | (repeat first | assumption | rfl | refine aG_n ?_ rfl rfl)) ?_
                refine wp_iload (pc := 57) dX12_proves_57 (by first | rfl | assumption | (repeat first | assumption | rfl | refine aG_n ?_ rfl rfl)) ?_
                refine wp_cS (pc := 59) dX12_proves_59 lk_12_357 rfl rfl rfl ?_
                refine wp_iload_n (pc := 0) dX12_sumBeside_0 (by first | rfl | assumption | (repeat first | assumption | rfl | refine aG_n ?_ rfl rfl)) ?_
                refine wp_iconst (pc := 1) (v := 2) dX12_sumBeside_1 (by decide) ?_
                refine wp_irem (pc := 2) dX12_sumBeside_2 (by decide) ?_
                refine wp_if_ne (pc := 3) (tgt := 14) dX12_sumBeside_3 rfl (fun q => absurd q (by decide)) (fun _ => ?_)
                refine wp_iload_n (pc := 6) dX12_sumBeside_6 (by first | rfl | assumption | (repeat first | assumption | rfl | refine aG_n ?_ rfl rfl)) ?_
                refine wp_iload_n (pc := 7) dX12_sumBeside_7 (by first | rfl | assumption | (repeat first | assumption | rfl | refine aG_n ?_ rfl rfl)) ?_
                refine wp_cS (pc := 8) dX12_sumBeside_8 lk_12_344 rfl rfl rfl (c_X12_sumOf (aK_i ?_))
                refine wp_goto (pc := 11) (tgt := 19) dX12_sumBeside_11 rfl ?_
                refine wp_iretK (pc := 19) dX12_sumBeside_19 rfl (by first | rfl | decide | assumption) ?_
                refine wp_istore (pc := 62) dX12_proves_62 (by decide) ?_
                refine wp_iload_n (pc := 64) dX12_proves_64 (by first | rfl | assumption | (repeat first | assumption | rfl | refine aG_n ?_ rfl rfl)) ?_
                refine wp_iconst (pc := 65) (v := 4) dX12_proves_65 (by decide) ?_
                refine wp_idiv (pc := 66) dX12_proves_66 (by decide) ?_
                refine wp_iload (pc := 67) dX12_proves_67 (by first | rfl | assumption | (repeat first | assumption | rfl | refine aG_n ?_ rfl rfl)) ?_
                refine wp_iload (pc := 69) dX12_proves_69 (by first | rfl | assumption | (repeat first | assumption | rfl | refine aG_n ?_ rfl rfl)) ?_
                refine wp_cS (pc := 71) dX12_proves_71 lk_12_357 rfl rfl rfl ?_
                refine wp_iload_n (pc := 0) dX12_sumBeside_0 (by first | rfl | assumption | (repeat first | assumption | rfl | refine aG_n ?_ rfl rfl)) ?_
                refine wp_iconst (pc := 1) (v := 2) dX12_sumBeside_1 (by decide) ?_
                refine wp_irem (pc := 2) dX12_sumBeside_2 (by decide) ?_
                refine wp_if_ne (pc := 3) (tgt := 14) dX12_sumBeside_3 rfl (fun _ => ?_) (fun q => absurd q (by decide))
                refine wp_iload_n (pc := 14) dX12_sumBeside_14 (by first | rfl | assumption | (repeat first | assumption | rfl | refine aG_n ?_ rfl rfl)) ?_
                refine wp_iload_n (pc := 15) dX12_sumBeside_15 (by first | rfl | assumption | (repeat first | assumption | rfl | refine aG_n ?_ rfl rfl)) ?_
                refine wp_cS (pc := 16) dX12_sumBeside_16 lk_12_344 rfl rfl rfl (c_X12_sumOf (aK_i ?_))
                refine wp_iretK (pc := 19) dX12_sumBeside_19 rfl (by first | rfl | decide | assumption) ?_
                refine wp_aload_n (pc := 74) dX12_proves_74 (by first | rfl | assumption | (repeat first | assumption | rfl | refine aG_n ?_ rfl rfl)) ?_
                refine wp_iconst (pc := 75) (v := 0) dX12_proves_75 (by decide) ?_
                refine wp_bipush (pc := 76) (v := 8) dX12_proves_76 (by decide) ?_
                refine wp_cV (pc := 78) dX12_proves_78 lk_12_349 rfl (by decide) rfl (by first | rfl | assumption | exact sh_house (by omega) | exact sh_wish (by omega) | exact sh_wor (by omega) | exact sh_bar (by omega) | exact sh_term (by omega) | exact sh_sheet (by omega) | exact sh_items (by omega) | exact sh_sums (by omega)) rfl rfl ?_
                refine wp_aload_n (pc := 0) dX12_sumFrom_0 (by first | rfl | assumption | (repeat first | assumption | rfl | refine aG_n ?_ rfl rfl)) ?_
                refine wp_getR (pc := 1) dX12_sumFrom_1 fl_12_119 (by first | rfl | assumption | exact sh_house (by omega) | exact sh_wish (by omega) | exact sh_wor (by omega) | exact sh_bar (by omega) | exact sh_term (by omega) | exact sh_sheet (by omega) | exact sh_items (by omega) | exact sh_sums (by omega)) rfl ?_
                refine wp_iload_n (pc := 4) dX12_sumFrom_4 (by first | rfl | assumption | (repeat first | assumption | rfl | refine aG_n ?_ rfl rfl)) ?_
                refine wp_ialdC (pc := 5) (j := 0) dX12_sumFrom_5 (by first | rfl | assumption | exact sh_house (by omega) | exact sh_wish (by omega) | exact sh_wor (by omega) | exact sh_bar (by omega) | exact sh_term (by omega) | exact sh_sheet (by omega) | exact sh_items (by omega) | exact sh_sums (by omega)) (by decide) (by decide) ?_
                refine wp_aload_n (pc := 6) dX12_sumFrom_6 (by first | rfl | assumption | (repeat first | assumption | rfl | refine aG_n ?_ rfl rfl)) ?_
                refine wp_getR (pc := 7) dX12_sumFrom_7 fl_12_119 (by first | rfl | assumption | exact sh_house (by omega) | exact sh_wish (by omega) | exact sh_wor (by omega) | exact sh_bar (by omega) | exact sh_term (by omega) | exact sh_sheet (by omega) | exact sh_items (by omega) | exact sh_sums (by omega)) rfl ?_
                refine wp_iload_n (pc := 10) dX12_sumFrom_10 (by first | rfl | assumption | (repeat first | assumption | rfl | refine aG_n ?_ rfl rfl)) ?_
                refine wp_iconst (pc := 11) (v := 1) dX12_sumFrom_11 (by decide) ?_
                refine wp_iadd (pc := 12) dX12_sumFrom_12 ?_
                refine wp_bipush (pc := 13) (v := 8) dX12_sumFrom_13 (by decide) ?_
                refine wp_irem (pc := 15) dX12_sumFrom_15 (by decide) ?_
                refine wp_ialdC (pc := 16) (j := 1) dX12_sumFrom_16 (by first | rfl | assumption | exact sh_house (by omega) | exact sh_wish (by omega) | exact sh_wor (by omega) | exact sh_bar (by omega) | exact sh_term (by omega) | exact sh_sheet (by omega) | exact sh_items (by omega) | exact sh_sums (by omega)) (by decide) (by decide) ?_
                refine wp_cS (pc := 17) dX12_sumFrom_17 lk_12_344 rfl rfl rfl (c_X12_sumOf (aK_i ?_))
                refine wp_istore_n (pc := 20) dX12_sumFrom_20 (by decide) ?_
                refine wp_iload_n (pc := 21) dX12_sumFrom_21 (by first | rfl | assumption | (repeat first | assumption | rfl | refine aG_n ?_ rfl rfl)) ?_
                refine wp_iconst (pc := 22) (v := 4) dX12_sumFrom_22 (by decide) ?_
                refine wp_icmp_ge (pc := 23) (tgt := 42) dX12_sumFrom_23 rfl (fun _ => ?_) (fun q => absurd q (by decide))
                refine wp_iload_n (pc := 42) dX12_sumFrom_42 (by first | rfl | assumption | (repeat first | assumption | rfl | refine aG_n ?_ rfl rfl)) ?_
                refine wp_aload_n (pc := 43) dX12_sumFrom_43 (by first | rfl | assumption | (repeat first | assumption | rfl | refine aG_n ?_ rfl rfl)) ?_
                refine wp_getR (pc := 44) dX12_sumFrom_44 fl_12_119 (by first | rfl | assumption | exact sh_house (by omega) | exact sh_wish (by omega) | exact sh_wor (by omega) | exact sh_bar (by omega) | exact sh_term (by omega) | exact sh_sheet (by omega) | exact sh_items (by omega) | exact sh_sums (by omega)) rfl ?_
                refine wp_iload_n (pc := 47) dX12_sumFrom_47 (by first | rfl | assumption | (repeat first | assumption | rfl | refine aG_n ?_ rfl rfl)) ?_
                refine wp_iconst (pc := 48) (v := 2) dX12_sumFrom_48 (by decide) ?_
                refine wp_iadd (pc := 49) dX12_sumFrom_49 ?_
                refine wp_ialdC (pc := 50) (j := 2) dX12_sumFrom_50 (by first | rfl | assumption | exact sh_house (by omega) | exact sh_wish (by omega) | exact sh_wor (by omega) | exact sh_bar (by omega) | exact sh_term (by omega) | exact sh_sheet (by omega) | exact sh_items (by omega) | exact sh_sums (by omega)) (by decide) (by decide) ?_
                refine wp_aload_n (pc := 51) dX12_sumFrom_51 (by first | rfl | assumption | (repeat first | assumption | rfl | refine aG_n ?_ rfl rfl)) ?_
                refine wp_getR (pc := 52) dX12_sumFrom_52 fl_12_119 (by first | rfl | assumption | exact sh_house (by omega) | exact sh_wish (by omega) | exact sh_wor (by omega) | exact sh_bar (by omega) | exact sh_term (by omega) | exact sh_sheet (by omega) | exact sh_items (by omega) | exact sh_sums (by omega)) rfl ?_
                refine wp_iload_n (pc := 55) dX12_sumFrom_55 (by first | rfl | assumption | (repeat first | assumption | rfl | refine aG_n ?_ rfl rfl)) ?_
                refine wp_iconst (pc := 56) (v := 3) dX12_sumFrom_56 (by decide) ?_
                refine wp_iadd (pc := 57) dX12_sumFrom_57 ?_
                refine wp_ialdC (pc := 58) (j := 3) dX12_sumFrom_58 (by first | rfl | assumption | exact sh_house (by omega) | exact sh_wish (by omega) | exact sh_wor (by omega) | exact sh_bar (by omega) | exact sh_term (by omega) | exact sh_sheet (by omega) | exact sh_items (by omega) | exact sh_sums (by omega)) (by decide) (by decide) ?_
                refine wp_cS (pc := 59) dX12_sumFrom_59 lk_12_344 rfl rfl rfl (c_X12_sumOf (aK_i ?_))
                refine wp_cS (pc := 62) dX12_sumFrom_62 lk_12_344 rfl rfl rfl (c_X12_sumOf (aK_i ?_))
                refine wp_istore (pc := 65) dX12_sumFrom_65 (by decide) ?_
                refine wp_iload_n (pc := 67) dX12_sumFrom_67 (by first | rfl | assumption | (repeat first | assumption | rfl | refine aG_n ?_ rfl rfl)) ?_
                refine wp_iconst (pc := 68) (v := 4) dX12_sumFrom_68 (by decide) ?_
                refine wp_icmp_ne (pc := 69) (tgt := 75) dX12_sumFrom_69 rfl (fun _ => ?_) (fun q => absurd q (by decide))
                refine wp_iload (pc := 75) dX12_sumFrom_75 (by first | rfl | assumption | (repeat first | assumption | rfl | refine aG_n ?_ rfl rfl)) ?_
                refine wp_aload_n (pc := 77) dX12_sumFrom_77 (by first | rfl | assumption | (repeat first | assumption | rfl | refine aG_n ?_ rfl rfl)) ?_
                refine wp_getR (pc := 78) dX12_sumFrom_78 fl_12_119 (by first | rfl | assumption | exact sh_house (by omega) | exact sh_wish (by omega) | exact sh_wor (by omega) | exact sh_bar (by omega) | exact sh_term (by omega) | exact sh_sheet (by omega) | exact sh_items (by omega) | exact sh_sums (by omega)) rfl ?_
                refine wp_iconst (pc := 81) (v := 4) dX12_sumFrom_81 (by decide) ?_
                refine wp_ialdC (pc := 82) (j := 4) dX12_sumFrom_82 (by first | rfl | assumption | exact sh_house (by omega) | exact sh_wish (by omega) | exact sh_wor (by omega) | exact sh_bar (by omega) | exact sh_term (by omega) | exact sh_sheet (by omega) | exact sh_items (by omega) | exact sh_sums (by omega)) (by decide) (by decide) ?_
                refine wp_aload_n (pc := 83) dX12_sumFrom_83 (by first | rfl | assumption | (repeat first | assumption | rfl | refine aG_n ?_ rfl rfl)) ?_
                refine wp_getR (pc := 84) dX12_sumFrom_84 fl_12_119 (by first | rfl | assumption | exact sh_house (by omega) | exact sh_wish (by omega) | exact sh_wor (by omega) | exact sh_bar (by omega) | exact sh_term (by omega) | exact sh_sheet (by omega) | exact sh_items (by omega) | exact sh_sums (by omega)) rfl ?_
                refine wp_iconst (pc := 87) (v := 5) dX12_sumFrom_87 (by decide) ?_
                refine wp_ialdC (pc := 88) (j := 5) dX12_sumFrom_88 (by first | rfl | assumption | exact sh_house (by omega) | exact sh_wish (by omega) | exact sh_wor (by omega) | exact sh_bar (by omega) | exact sh_term (by omega) | exact sh_sheet (by omega) | exact sh_items (by omega) | exact sh_sums (by omega)) (by decide) (by decide) ?_
                refine wp_cS (pc := 89) dX12_sumFrom_89 lk_12_344 rfl rfl rfl (c_X12_sumOf (aK_i ?_))
                refine wp_aload_n (pc := 92) dX12_sumFrom_92 (by first | rfl | assumption | (repeat first | assumption | rfl | refine aG_n ?_ rfl rfl)) ?_
                refine wp_getR (pc := 93) dX12_sumFrom_93 fl_12_119 (by first | rfl | assumption | exact sh_house (by omega) | exact sh_wish (by omega) | exact sh_wor (by omega) | exact sh_bar (by omega) | exact sh_term (by omega) | exact sh_sheet (by omega) | exact sh_items (by omega) | exact sh_sums (by omega)) rfl ?_
                refine wp_bipush (pc := 96) (v := 6) dX12_sumFrom_96 (by decide) ?_
                refine wp_ialdC (pc := 98) (j := 6) dX12_sumFrom_98 (by first | rfl | assumption | exact sh_house (by omega) | exact sh_wish (by omega) | exact sh_wor (by omega) | exact sh_bar (by omega) | exact sh_term (by omega) | exact sh_sheet (by omega) | exact sh_items (by omega) | exact sh_sums (by omega)) (by decide) (by decide) ?_
                refine wp_aload_n (pc := 99) dX12_sumFrom_99 (by first | rfl | assumption | (repeat first | assumption | rfl | refine aG_n ?_ rfl rfl)) ?_
                refine wp_getR (pc := 100) dX12_sumFrom_100 fl_12_119 (by first | rfl | assumption | exact sh_house (by omega) | exact sh_wish (by omega) | exact sh_wor (by omega) | exact sh_bar (by omega) | exact sh_term (by omega) | exact sh_sheet (by omega) | exact sh_items (by omega) | exact sh_sums (by omega)) rfl ?_
                refine wp_bipush (pc := 103) (v := 7) dX12_sumFrom_103 (by decide) ?_
                refine wp_ialdC (pc := 105) (j := 7) dX12_sumFrom_105 (by first | rfl | assumption | exact sh_house (by omega) | exact sh_wish (by omega) | exact sh_wor (by omega) | exact sh_bar (by omega) | exact sh_term (by omega) | exact sh_sheet (by omega) | exact sh_items (by omega) | exact sh_sums (by omega)) (by decide) (by decide) ?_
                refine wp_cS (pc := 106) dX12_sumFrom_106 lk_12_344 rfl rfl rfl (c_X12_sumOf (aK_i ?_))
                refine wp_cS (pc := 109) dX12_sumFrom_109 lk_12_344 rfl rfl rfl (c_X12_sumOf (aK_i ?_))
                refine wp_cS (pc := 112) dX12_sumFrom_112 lk_12_344 rfl rfl rfl (c_X12_sumOf (aK_i ?_))
                refine wp_iretK (pc := 115) dX12_sumFrom_115 rfl (by first | rfl | decide | assumption) ?_
                refine wp_icmp_ne (pc := 81) (tgt := 88) dX12_proves_81 rfl (fun q => absurd (by rw [root_eq hR]; exact c5) q) (fun _ => ?_)
                refine wp_iconst (pc := 84) (v := 1) dX12_proves_84 (by decide) ?_
                refine wp_goto (pc := 85) (tgt := 89) dX12_proves_85 rfl ?_
                refine wp_ireturn (pc := 89) dX12_proves_89 rfl (by first | rfl | decide | assumption) ?_
                exact k' _ hI
              · skip
                refine wp_iload_n (pc := 0) dX11_proves_0 (by first | rfl | assumption | (repeat first | assumption | rfl | refine aG_n ?_ rfl rfl)) ?_
                refine wp_iconst (pc := 1) (v := 0) dX11_proves_1 (by decide) ?_
                refine wp_bipush (pc := 2) (v := 7) dX11_proves_2 (by decide) ?_
                refine wp_cS (pc := 4) dX11_proves_4 lk_11_112 rfl rfl rfl (c_X11_isWithin (fun _ => aK_i ?_) (fun q => absurd c0 q))
                refine wp_if_eq (pc := 7) (tgt := 40) dX11_proves_7 rfl (fun q => absurd q (by decide)) (fun _ => ?_)
                refine wp_iload_n (pc := 10) dX11_proves_10 (by first | rfl | assumption | (repeat first | assumption | rfl | refine aG_n ?_ rfl rfl)) ?_
                refine wp_cS (pc := 11) dX11_proves_11 lk_11_355 rfl rfl rfl (c_X11_isSum (fun _ => aK_i ?_) (fun q => absurd c1 q))
                refine wp_if_eq (pc := 14) (tgt := 40) dX11_proves_14 rfl (fun q => absurd q (by decide)) (fun _ => ?_)
                refine wp_iload_n (pc := 17) dX11_proves_17 (by first | rfl | assumption | (repeat first | assumption | rfl | refine aG_n ?_ rfl rfl)) ?_
                refine wp_cS (pc := 18) dX11_proves_18 lk_11_355 rfl rfl rfl (c_X11_isSum (fun _ => aK_i ?_) (fun q => absurd c2 q))
                refine wp_if_eq (pc := 21) (tgt := 40) dX11_proves_21 rfl (fun q => absurd q (by decide)) (fun _ => ?_)
                refine wp_iload (pc := 24) dX11_proves_24 (by first | rfl | assumption | (repeat first | assumption | rfl | refine aG_n ?_ rfl rfl)) ?_
                refine wp_cS (pc := 26) dX11_proves_26 lk_11_355 rfl rfl rfl (c_X11_isSum (fun _ => aK_i ?_) (fun q => absurd c3 q))
                refine wp_if_eq (pc := 29) (tgt := 40) dX11_proves_29 rfl (fun q => absurd q (by decide)) (fun _ => ?_)
                refine wp_iload (pc := 32) dX11_proves_32 (by first | rfl | assumption | (repeat first | assumption | rfl | refine aG_n ?_ rfl rfl)) ?_
                refine wp_cS (pc := 34) dX11_proves_34 lk_11_355 rfl rfl rfl (c_X11_isSum (fun _ => aK_i ?_) (fun q => absurd c4 q))
                refine wp_if_ne (pc := 37) (tgt := 42) dX11_proves_37 rfl (fun _ => ?_) (fun q => absurd q (by decide))
                refine wp_iload_n (pc := 42) dX11_proves_42 (by first | rfl | assumption | (repeat first | assumption | rfl | refine aG_n ?_ rfl rfl)) ?_
                refine wp_iload_n (pc := 43) dX11_proves_43 (by first | rfl | assumption | (repeat first | assumption | rfl | refine aG_n ?_ rfl rfl)) ?_
                refine wp_iload_n (pc := 44) dX11_proves_44 (by first | rfl | assumption | (repeat first | assumption | rfl | refine aG_n ?_ rfl rfl)) ?_
                refine wp_cS (pc := 45) dX11_proves_45 lk_11_358 rfl rfl rfl ?_
                refine wp_iload_n (pc := 0) dX5_climb_0 (by first | rfl | assumption | (repeat first | assumption | rfl | refine aG_n ?_ rfl rfl)) ?_
                refine wp_iconst (pc := 1) (v := 1) dX5_climb_1 (by decide) ?_
                refine wp_iand (pc := 2) dX5_climb_2 ?_
                refine wp_if_ne (pc := 3) (tgt := 14) dX5_climb_3 rfl (fun _ => ?_) (fun q => absurd q (by decide))
                refine wp_iload_n (pc := 14) dX5_climb_14 (by first | rfl | assumption | (repeat first | assumption | rfl | refine aG_n ?_ rfl rfl)) ?_
                refine wp_iload_n (pc := 15) dX5_climb_15 (by first | rfl | assumption | (repeat first | assumption | rfl | refine aG_n ?_ rfl rfl)) ?_
                refine wp_cS (pc := 16) dX5_climb_16 lk_5_13 rfl rfl rfl (c_X5_sum (aK_i ?_))
                refine wp_iretK (pc := 19) dX5_climb_19 rfl (by first | rfl | decide | assumption) ?_
                refine wp_istore (pc := 48) dX11_proves_48 (by decide) ?_
                refine wp_iload_n (pc := 50) dX11_proves_50 (by first | rfl | assumption | (repeat first | assumption | rfl | refine aG_n ?_ rfl rfl)) ?_
                refine wp_iconst (pc := 51) (v := 1) dX11_proves_51 (by decide) ?_
                refine wp_ishr (pc := 52) dX11_proves_52 ?_
                refine wp_iload (pc := 53) dX11_proves_53 (by first | rfl | assumption | (repeat first | assumption | rfl | refine aG_n ?_ rfl rfl)) ?_
                refine wp_iload (pc := 55) dX11_proves_55 (by first | rfl | assumption | (repeat first | assumption | rfl | refine aG_n ?_ rfl rfl)) ?_
                refine wp_cS (pc := 57) dX11_proves_57 lk_11_358 rfl rfl rfl ?_
                refine wp_iload_n (pc := 0) dX5_climb_0 (by first | rfl | assumption | (repeat first | assumption | rfl | refine aG_n ?_ rfl rfl)) ?_
                refine wp_iconst (pc := 1) (v := 1) dX5_climb_1 (by decide) ?_
                refine wp_iand (pc := 2) dX5_climb_2 ?_
                refine wp_if_ne (pc := 3) (tgt := 14) dX5_climb_3 rfl (fun q => absurd q (by decide)) (fun _ => ?_)
                refine wp_iload_n (pc := 6) dX5_climb_6 (by first | rfl | assumption | (repeat first | assumption | rfl | refine aG_n ?_ rfl rfl)) ?_
                refine wp_iload_n (pc := 7) dX5_climb_7 (by first | rfl | assumption | (repeat first | assumption | rfl | refine aG_n ?_ rfl rfl)) ?_
                refine wp_cS (pc := 8) dX5_climb_8 lk_5_13 rfl rfl rfl (c_X5_sum (aK_i ?_))
                refine wp_goto (pc := 11) (tgt := 19) dX5_climb_11 rfl ?_
                refine wp_iretK (pc := 19) dX5_climb_19 rfl (by first | rfl | decide | assumption) ?_
                refine wp_istore (pc := 60) dX11_proves_60 (by decide) ?_
                refine wp_iload_n (pc := 62) dX11_proves_62 (by first | rfl | assumption | (repeat first | assumption | rfl | refine aG_n ?_ rfl rfl)) ?_
                refine wp_iconst (pc := 63) (v := 2) dX11_proves_63 (by decide) ?_
                refine wp_ishr (pc := 64) dX11_proves_64 ?_
                refine wp_iload (pc := 65) dX11_proves_65 (by first | rfl | assumption | (repeat first | assumption | rfl | refine aG_n ?_ rfl rfl)) ?_
                refine wp_iload (pc := 67) dX11_proves_67 (by first | rfl | assumption | (repeat first | assumption | rfl | refine aG_n ?_ rfl rfl)) ?_
                refine wp_cS (pc := 69) dX11_proves_69 lk_11_358 rfl rfl rfl ?_
                refine wp_iload_n (pc := 0) dX5_climb_0 (by first | rfl | assumption | (repeat first | assumption | rfl | refine aG_n ?_ rfl rfl)) ?_
                refine wp_iconst (pc := 1) (v := 1) dX5_climb_1 (by decide) ?_
                refine wp_iand (pc := 2) dX5_climb_2 ?_
                refine wp_if_ne (pc := 3) (tgt := 14) dX5_climb_3 rfl (fun _ => ?_) (fun q => absurd q (by decide))
                refine wp_iload_n (pc := 14) dX5_climb_14 (by first | rfl | assumption | (repeat first | assumption | rfl | refine aG_n ?_ rfl rfl)) ?_
                refine wp_iload_n (pc := 15) dX5_climb_15 (by first | rfl | assumption | (repeat first | assumption | rfl | refine aG_n ?_ rfl rfl)) ?_
                refine wp_cS (pc := 16) dX5_climb_16 lk_5_13 rfl rfl rfl (c_X5_sum (aK_i ?_))
                refine wp_iretK (pc := 19) dX5_climb_19 rfl (by first | rfl | decide | assumption) ?_
                refine wp_istore (pc := 72) dX11_proves_72 (by decide) ?_
                refine wp_iload (pc := 74) dX11_proves_74 (by first | rfl | assumption | (repeat first | assumption | rfl | refine aG_n ?_ rfl rfl)) ?_
                refine wp_aload_n (pc := 76) dX11_proves_76 (by first | rfl | assumption | (repeat first | assumption | rfl | refine aG_n ?_ rfl rfl)) ?_
                refine wp_getR (pc := 77) dX11_proves_77 fl_11_60 (by first | rfl | assumption | exact sh_house (by omega) | exact sh_wish (by omega) | exact sh_wor (by omega) | exact sh_bar (by omega) | exact sh_term (by omega) | exact sh_sheet (by omega) | exact sh_items (by omega) | exact sh_sums (by omega)) rfl ?_
                refine wp_getR (pc := 80) dX11_proves_80 fl_11_349 (by first | rfl | assumption | exact sh_house (by omega) | exact sh_wish (by omega) | exact sh_wor (by omega) | exact sh_bar (by omega) | exact sh_term (by omega) | exact sh_sheet (by omega) | exact sh_items (by omega) | exact sh_sums (by omega)) rfl ?_
                refine wp_iconst (pc := 83) (v := 1) dX11_proves_83 (by decide) ?_
                refine wp_ialdC (pc := 84) (j := 1) dX11_proves_84 (by first | rfl | assumption | exact sh_house (by omega) | exact sh_wish (by omega) | exact sh_wor (by omega) | exact sh_bar (by omega) | exact sh_term (by omega) | exact sh_sheet (by omega) | exact sh_items (by omega) | exact sh_sums (by omega)) (by decide) (by decide) ?_
                refine wp_icmp_ne (pc := 85) (tgt := 92) dX11_proves_85 rfl (fun _ => ?_) (fun q => absurd q c5)
                refine wp_iconst (pc := 92) (v := 0) dX11_proves_92 (by decide) ?_
                refine wp_cS (pc := 93) dX11_proves_93 lk_11_148 rfl rfl rfl ?_
                refine wp_iload_n (pc := 0) dX11_oneIf_0 (by first | rfl | assumption | (repeat first | assumption | rfl | refine aG_n ?_ rfl rfl)) ?_
                refine wp_if_eq (pc := 1) (tgt := 8) dX11_oneIf_1 rfl (fun _ => ?_) (fun q => absurd q (by decide))
                refine wp_iconst (pc := 8) (v := 0) dX11_oneIf_8 (by decide) ?_
                refine wp_iretK (pc := 9) dX11_oneIf_9 rfl (by first | rfl | decide | assumption) ?_
                refine wp_ireturn (pc := 96) dX11_proves_96 rfl (by first | rfl | decide | assumption) ?_
                refine k _ _ (fun Q' k' => ?_)
                refine wp_iload_n (pc := 0) dX12_proves_0 (by first | rfl | assumption | (repeat first | assumption | rfl | refine aG_n ?_ rfl rfl)) ?_
                refine wp_i2l (pc := 1) dX12_proves_1 ?_
                refine wp_lconst (pc := 2) (v := 0) dX12_proves_2 (by decide) ?_
                refine wp_ldc2 (pc := 3) dX12_proves_3 cl_12_347 ?_
                refine wp_cS (pc := 6) dX12_proves_6 lk_12_133 rfl rfl rfl (c_X12_in (fun _ => aK_i ?_) (fun q => absurd (by rw [w_int]; exact c0) q))
                refine wp_if_eq (pc := 9) (tgt := 42) dX12_proves_9 rfl (fun q => absurd q (by decide)) (fun _ => ?_)
                refine wp_iload_n (pc := 12) dX12_proves_12 (by first | rfl | assumption | (repeat first | assumption | rfl | refine aG_n ?_ rfl rfl)) ?_
                refine wp_cS (pc := 13) dX12_proves_13 lk_12_354 rfl rfl rfl (c_X12_isSum (fun _ => aK_i ?_) (fun q => absurd c1 q))
                refine wp_if_eq (pc := 16) (tgt := 42) dX12_proves_16 rfl (fun q => absurd q (by decide)) (fun _ => ?_)
                refine wp_iload_n (pc := 19) dX12_proves_19 (by first | rfl | assumption | (repeat first | assumption | rfl | refine aG_n ?_ rfl rfl)) ?_
                refine wp_cS (pc := 20) dX12_proves_20 lk_12_354 rfl rfl rfl (c_X12_isSum (fun _ => aK_i ?_) (fun q => absurd c2 q))
                refine wp_if_eq (pc := 23) (tgt := 42) dX12_proves_23 rfl (fun q => absurd q (by decide)) (fun _ => ?_)
                refine wp_iload (pc := 26) dX12_proves_26 (by first | rfl | assumption | (repeat first | assumption | rfl | refine aG_n ?_ rfl rfl)) ?_
                refine wp_cS (pc := 28) dX12_proves_28 lk_12_354 rfl rfl rfl (c_X12_isSum (fun _ => aK_i ?_) (fun q => absurd c3 q))
                refine wp_if_eq (pc := 31) (tgt := 42) dX12_proves_31 rfl (fun q => absurd q (by decide)) (fun _ => ?_)
                refine wp_iload (pc := 34) dX12_proves_34 (by first | rfl | assumption | (repeat first | assumption | rfl | refine aG_n ?_ rfl rfl)) ?_
                refine wp_cS (pc := 36) dX12_proves_36 lk_12_354 rfl rfl rfl (c_X12_isSum (fun _ => aK_i ?_) (fun q => absurd c4 q))
                refine wp_if_ne (pc := 39) (tgt := 44) dX12_proves_39 rfl (fun _ => ?_) (fun q => absurd q (by decide))
                refine wp_iload_n (pc := 44) dX12_proves_44 (by first | rfl | assumption | (repeat first | assumption | rfl | refine aG_n ?_ rfl rfl)) ?_
                refine wp_iload_n (pc := 45) dX12_proves_45 (by first | rfl | assumption | (repeat first | assumption | rfl | refine aG_n ?_ rfl rfl)) ?_
                refine wp_iload_n (pc := 46) dX12_proves_46 (by first | rfl | assumption | (repeat first | assumption | rfl | refine aG_n ?_ rfl rfl)) ?_
                refine wp_cS (pc := 47) dX12_proves_47 lk_12_357 rfl rfl rfl ?_
                refine wp_iload_n (pc := 0) dX12_sumBeside_0 (by first | rfl | assumption | (repeat first | assumption | rfl | refine aG_n ?_ rfl rfl)) ?_
                refine wp_iconst (pc := 1) (v := 2) dX12_sumBeside_1 (by decide) ?_
                refine wp_irem (pc := 2) dX12_sumBeside_2 (by decide) ?_
                refine wp_if_ne (pc := 3) (tgt := 14) dX12_sumBeside_3 rfl (fun _ => ?_) (fun q => absurd q (by decide))
                refine wp_iload_n (pc := 14) dX12_sumBeside_14 (by first | rfl | assumption | (repeat first | assumption | rfl | refine aG_n ?_ rfl rfl)) ?_
                refine wp_iload_n (pc := 15) dX12_sumBeside_15 (by first | rfl | assumption | (repeat first | assumption | rfl | refine aG_n ?_ rfl rfl)) ?_
                refine wp_cS (pc := 16) dX12_sumBeside_16 lk_12_344 rfl rfl rfl (c_X12_sumOf (aK_i ?_))
                refine wp_iretK (pc := 19) dX12_sumBeside_19 rfl (by first | rfl | decide | assumption) ?_
                refine wp_istore (pc := 50) dX12_proves_50 (by decide) ?_
                refine wp_iload_n (pc := 52) dX12_proves_52 (by first | rfl | assumption | (repeat first | assumption | rfl | refine aG_n ?_ rfl rfl)) ?_
                refine wp_iconst (pc := 53) (v := 2) dX12_proves_53 (by decide) ?_
                refine wp_idiv (pc := 54) dX12_proves_54 (by decide) ?_
                refine wp_iload (pc := 55) dX12_proves_55 (by first | rfl | assumption | (repeat first | assumption | rfl | refine aG_n ?_ rfl rfl)) ?_
                refine wp_iload (pc := 57) dX12_proves_57 (by first | rfl | assumption | (repeat first | assumption | rfl | refine aG_n ?_ rfl rfl)) ?_
                refine wp_cS (pc := 59) dX12_proves_59 lk_12_357 rfl rfl rfl ?_
                refine wp_iload_n (pc := 0) dX12_sumBeside_0 (by first | rfl | assumption | (repeat first | assumption | rfl | refine aG_n ?_ rfl rfl)) ?_
                refine wp_iconst (pc := 1) (v := 2) dX12_sumBeside_1 (by decide) ?_
                refine wp_irem (pc := 2) dX12_sumBeside_2 (by decide) ?_
                refine wp_if_ne (pc := 3) (tgt := 14) dX12_sumBeside_3 rfl (fun q => absurd q (by decide)) (fun _ => ?_)
                refine wp_iload_n (pc := 6) dX12_sumBeside_6 (by first | rfl | assumption | (repeat first | assumption | rfl | refine aG_n ?_ rfl rfl)) ?_
                refine wp_iload_n (pc := 7) dX12_sumBeside_7 (by first | rfl | assumption | (repeat first | assumption | rfl | refine aG_n ?_ rfl rfl)) ?_
                refine wp_cS (pc := 8) dX12_sumBeside_8 lk_12_344 rfl rfl rfl (c_X12_sumOf (aK_i ?_))
                refine wp_goto (pc := 11) (tgt := 19) dX12_sumBeside_11 rfl ?_
                refine wp_iretK (pc := 19) dX12_sumBeside_19 rfl (by first | rfl | decide | assumption) ?_
                refine wp_istore (pc := 62) dX12_proves_62 (by decide) ?_
                refine wp_iload_n (pc := 64) dX12_proves_64 (by first | rfl | assumption | (repeat first | assumption | rfl | refine aG_n ?_ rfl rfl)) ?_
                refine wp_iconst (pc := 65) (v := 4) dX12_proves_65 (by decide) ?_
                refine wp_idiv (pc := 66) dX12_proves_66 (by decide) ?_
                refine wp_iload (pc := 67) dX12_proves_67 (by first | rfl | assumption | (repeat first | assumption | rfl | refine aG_n ?_ rfl rfl)) ?_
                refine wp_iload (pc := 69) dX12_proves_69 (by first | rfl | assumption | (repeat first | assumption | rfl | refine aG_n ?_ rfl rfl)) ?_
                refine wp_cS (pc := 71) dX12_proves_71 lk_12_357 rfl rfl rfl ?_
                refine wp_iload_n (pc := 0) dX12_sumBeside_0 (by first | rfl | assumption | (repeat first | assumption | rfl | refine aG_n ?_ rfl rfl)) ?_
                refine wp_iconst (pc := 1) (v := 2) dX12_sumBeside_1 (by decide) ?_
                refine wp_irem (pc := 2) dX12_sumBeside_2 (by decide) ?_
                refine wp_if_ne (pc := 3) (tgt := 14) dX12_sumBeside_3 rfl (fun _ => ?_) (fun q => absurd q (by decide))
                refine wp_iload_n (pc := 14) dX12_sumBeside_14 (by first | rfl | assumption | (repeat first | assumption | rfl | refine aG_n ?_ rfl rfl)) ?_
                refine wp_iload_n (pc := 15) dX12_sumBeside_15 (by first | rfl | assumption | (repeat first | assumption | rfl | refine aG_n ?_ rfl rfl)) ?_
                refine wp_cS (pc := 16) dX12_sumBeside_16 lk_12_344 rfl rfl rfl (c_X12_sumOf (aK_i ?_))
                refine wp_iretK (pc := 19) dX12_sumBeside_19 rfl (by first | rfl | decide | assumption) ?_
                refine wp_aload_n (pc := 74) dX12_proves_74 (by first | rfl | assumption | (repeat first | assumption | rfl | refine aG_n ?_ rfl rfl)) ?_
                refine wp_iconst (pc := 75) (v := 0) dX12_proves_75 (by decide) ?_
                refine wp_bipush (pc := 76) (v := 8) dX12_proves_76 (by decide) ?_
                refine wp_cV (pc := 78) dX12_proves_78 lk_12_349 rfl (by decide) rfl (by first | rfl | assumption | exact sh_house (by omega) | exact sh_wish (by omega) | exact sh_wor (by omega) | exact sh_bar (by omega) | exact sh_term (by omega) | exact sh_sheet (by omega) | exact sh_items (by omega) | exact sh_sums (by omega)) rfl rfl ?_
                refine wp_aload_n (pc := 0) dX12_sumFrom_0 (by first | rfl | assumption | (repeat first | assumption | rfl | refine aG_n ?_ rfl rfl)) ?_
                refine wp_getR (pc := 1) dX12_sumFrom_1 fl_12_119 (by first | rfl | assumption | exact sh_house (by omega) | exact sh_wish (by omega) | exact sh_wor (by omega) | exact sh_bar (by omega) | exact sh_term (by omega) | exact sh_sheet (by omega) | exact sh_items (by omega) | exact sh_sums (by omega)) rfl ?_
                refine wp_iload_n (pc := 4) dX12_sumFrom_4 (by first | rfl | assumption | (repeat first | assumption | rfl | refine aG_n ?_ rfl rfl)) ?_
                refine wp_ialdC (pc := 5) (j := 0) dX12_sumFrom_5 (by first | rfl | assumption | exact sh_house (by omega) | exact sh_wish (by omega) | exact sh_wor (by omega) | exact sh_bar (by omega) | exact sh_term (by omega) | exact sh_sheet (by omega) | exact sh_items (by omega) | exact sh_sums (by omega)) (by decide) (by decide) ?_
                refine wp_aload_n (pc := 6) dX12_sumFrom_6 (by first | rfl | assumption | (repeat first | assumption | rfl | refine aG_n ?_ rfl rfl)) ?_
                refine wp_getR (pc := 7) dX12_sumFrom_7 fl_12_119 (by first | rfl | assumption | exact sh_house (by omega) | exact sh_wish (by omega) | exact sh_wor (by omega) | exact sh_bar (by omega) | exact sh_term (by omega) | exact sh_sheet (by omega) | exact sh_items (by omega) | exact sh_sums (by omega)) rfl ?_
                refine wp_iload_n (pc := 10) dX12_sumFrom_10 (by first | rfl | assumption | (repeat first | assumption | rfl | refine aG_n ?_ rfl rfl)) ?_
                refine wp_iconst (pc := 11) (v := 1) dX12_sumFrom_11 (by decide) ?_
                refine wp_iadd (pc := 12) dX12_sumFrom_12 ?_
                refine wp_bipush (pc := 13) (v := 8) dX12_sumFrom_13 (by decide) ?_
                refine wp_irem (pc := 15) dX12_sumFrom_15 (by decide) ?_
                refine wp_ialdC (pc := 16) (j := 1) dX12_sumFrom_16 (by first | rfl | assumption | exact sh_house (by omega) | exact sh_wish (by omega) | exact sh_wor (by omega) | exact sh_bar (by omega) | exact sh_term (by omega) | exact sh_sheet (by omega) | exact sh_items (by omega) | exact sh_sums (by omega)) (by decide) (by decide) ?_
                refine wp_cS (pc := 17) dX12_sumFrom_17 lk_12_344 rfl rfl rfl (c_X12_sumOf (aK_i ?_))
                refine wp_istore_n (pc := 20) dX12_sumFrom_20 (by decide) ?_
                refine wp_iload_n (pc := 21) dX12_sumFrom_21 (by first | rfl | assumption | (repeat first | assumption | rfl | refine aG_n ?_ rfl rfl)) ?_
                refine wp_iconst (pc := 22) (v := 4) dX12_sumFrom_22 (by decide) ?_
                refine wp_icmp_ge (pc := 23) (tgt := 42) dX12_sumFrom_23 rfl (fun _ => ?_) (fun q => absurd q (by decide))
                refine wp_iload_n (pc := 42) dX12_sumFrom_42 (by first | rfl | assumption | (repeat first | assumption | rfl | refine aG_n ?_ rfl rfl)) ?_
                refine wp_aload_n (pc := 43) dX12_sumFrom_43 (by first | rfl | assumption | (repeat first | assumption | rfl | refine aG_n ?_ rfl rfl)) ?_
                refine wp_getR (pc := 44) dX12_sumFrom_44 fl_12_119 (by first | rfl | assumption | exact sh_house (by omega) | exact sh_wish (by omega) | exact sh_wor (by omega) | exact sh_bar (by omega) | exact sh_term (by omega) | exact sh_sheet (by omega) | exact sh_items (by omega) | exact sh_sums (by omega)) rfl ?_
                refine wp_iload_n (pc := 47) dX12_sumFrom_47 (by first | rfl | assumption | (repeat first | assumption | rfl | refine aG_n ?_ rfl rfl)) ?_
                refine wp_iconst (pc := 48) (v := 2) dX12_sumFrom_48 (by decide) ?_
                refine wp_iadd (pc := 49) dX12_sumFrom_49 ?_
                refine wp_ialdC (pc := 50) (j := 2) dX12_sumFrom_50 (by first | rfl | assumption | exact sh_house (by omega) | exact sh_wish (by omega) | exact sh_wor (by omega) | exact sh_bar (by omega) | exact sh_term (by omega) | exact sh_sheet (by omega) | exact sh_items (by omega) | exact sh_sums (by omega)) (by decide) (by decide) ?_
                refine wp_aload_n (pc := 51) dX12_sumFrom_51 (by first | rfl | assumption | (repeat first | assumption | rfl | refine aG_n ?_ rfl rfl)) ?_
                refine wp_getR (pc := 52) dX12_sumFrom_52 fl_12_119 (by first | rfl | assumption | exact sh_house (by omega) | exact sh_wish (by omega) | exact sh_wor (by omega) | exact sh_bar (by omega) | exact sh_term (by omega) | exact sh_sheet (by omega) | exact sh_items (by omega) | exact sh_sums (by omega)) rfl ?_
                refine wp_iload_n (pc := 55) dX12_sumFrom_55 (by first | rfl | assumption | (repeat first | assumption | rfl | refine aG_n ?_ rfl rfl)) ?_
                refine wp_iconst (pc := 56) (v := 3) dX12_sumFrom_56 (by decide) ?_
                refine wp_iadd (pc := 57) dX12_sumFrom_57 ?_
                refine wp_ialdC (pc := 58) (j := 3) dX12_sumFrom_58 (by first | rfl | assumption | exact sh_house (by omega) | exact sh_wish (by omega) | exact sh_wor (by omega) | exact sh_bar (by omega) | exact sh_term (by omega) | exact sh_sheet (by omega) | exact sh_items (by omega) | exact sh_sums (by omega)) (by decide) (by decide) ?_
                refine wp_cS (pc := 59) dX12_sumFrom_59 lk_12_344 rfl rfl rfl (c_X12_sumOf (aK_i ?_))
                refine wp_cS (pc := 62) dX12_sumFrom_62 lk_12_344 rfl rfl rfl (c_X12_sumOf (aK_i ?_))
                refine wp_istore (pc := 65) dX12_sumFrom_65 (by decide) ?_
                refine wp_iload_n (pc := 67) dX12_sumFrom_67 (by first | rfl | assumption | (repeat first | assumption | rfl | refine aG_n ?_ rfl rfl)) ?_
                refine wp_iconst (pc := 68) (v := 4) dX12_sumFrom_68 (by decide) ?_
                refine wp_icmp_ne (pc := 69) (tgt := 75) dX12_sumFrom_69 rfl (fun _ => ?_) (fun q => absurd q (by decide))
                refine wp_iload (pc := 75) dX12_sumFrom_75 (by first | rfl | assumption | (repeat first | assumption | rfl | refine aG_n ?_ rfl rfl)) ?_
                refine wp_aload_n (pc := 77) dX12_sumFrom_77 (by first | rfl | assumption | (repeat first | assumption | rfl | refine aG_n ?_ rfl rfl)) ?_
                refine wp_getR (pc := 78) dX12_sumFrom_78 fl_12_119 (by first | rfl | assumption | exact sh_house (by omega) | exact sh_wish (by omega) | exact sh_wor (by omega) | exact sh_bar (by omega) | exact sh_term (by omega) | exact sh_sheet (by omega) | exact sh_items (by omega) | exact sh_sums (by omega)) rfl ?_
                refine wp_iconst (pc := 81) (v := 4) dX12_sumFrom_81 (by decide) ?_
                refine wp_ialdC (pc := 82) (j := 4) dX12_sumFrom_82 (by first | rfl | assumption | exact sh_house (by omega) | exact sh_wish (by omega) | exact sh_wor (by omega) | exact sh_bar (by omega) | exact sh_term (by omega) | exact sh_sheet (by omega) | exact sh_items (by omega) | exact sh_sums (by omega)) (by decide) (by decide) ?_
                refine wp_aload_n (pc := 83) dX12_sumFrom_83 (by first | rfl | assumption | (repeat first | assumption | rfl | refine aG_n ?_ rfl rfl)) ?_
                refine wp_getR (pc := 84) dX12_sumFrom_84 fl_12_119 (by first | rfl | assumption | exact sh_house (by omega) | exact sh_wish (by omega) | exact sh_wor (by omega) | exact sh_bar (by omega) | exact sh_term (by omega) | exact sh_sheet (by omega) | exact sh_items (by omega) | exact sh_sums (by omega)) rfl ?_
                refine wp_iconst (pc := 87) (v := 5) dX12_sumFrom_87 (by decide) ?_
                refine wp_ialdC (pc := 88) (j := 5) dX12_sumFrom_88 (by first | rfl | assumption | exact sh_house (by omega) | exact sh_wish (by omega) | exact sh_wor (by omega) | exact sh_bar (by omega) | exact sh_term (by omega) | exact sh_sheet (by omega) | exact sh_items (by omega) | exact sh_sums (by omega)) (by decide) (by decide) ?_
                refine wp_cS (pc := 89) dX12_sumFrom_89 lk_12_344 rfl rfl rfl (c_X12_sumOf (aK_i ?_))
                refine wp_aload_n (pc := 92) dX12_sumFrom_92 (by first | rfl | assumption | (repeat first | assumption | rfl | refine aG_n ?_ rfl rfl)) ?_
                refine wp_getR (pc := 93) dX12_sumFrom_93 fl_12_119 (by first | rfl | assumption | exact sh_house (by omega) | exact sh_wish (by omega) | exact sh_wor (by omega) | exact sh_bar (by omega) | exact sh_term (by omega) | exact sh_sheet (by omega) | exact sh_items (by omega) | exact sh_sums (by omega)) rfl ?_
                refine wp_bipush (pc := 96) (v := 6) dX12_sumFrom_96 (by decide) ?_
                refine wp_ialdC (pc := 98) (j := 6) dX12_sumFrom_98 (by first | rfl | assumption | exact sh_house (by omega) | exact sh_wish (by omega) | exact sh_wor (by omega) | exact sh_bar (by omega) | exact sh_term (by omega) | exact sh_sheet (by omega) | exact sh_items (by omega) | exact sh_sums (by omega)) (by decide) (by decide) ?_
                refine wp_aload_n (pc := 99) dX12_sumFrom_99 (by first | rfl | assumption | (repeat first | assumption | rfl | refine aG_n ?_ rfl rfl)) ?_
                refine wp_getR (pc := 100) dX12_sumFrom_100 fl_12_119 (by first | rfl | assumption | exact sh_house (by omega) | exact sh_wish (by omega) | exact sh_wor (by omega) | exact sh_bar (by omega) | exact sh_term (by omega) | exact sh_sheet (by omega) | exact sh_items (by omega) | exact sh_sums (by omega)) rfl ?_
                refine wp_bipush (pc := 103) (v := 7) dX12_sumFrom_103 (by decide) ?_
                refine wp_ialdC (pc := 105) (j := 7) dX12_sumFrom_105 (by first | rfl | assumption | exact sh_house (by omega) | exact sh_wish (by omega) | exact sh_wor (by omega) | exact sh_bar (by omega) | exact sh_term (by omega) | exact sh_sheet (by omega) | exact sh_items (by omega) | exact sh_sums (by omega)) (by decide) (by decide) ?_
                refine wp_cS (pc := 106) dX12_sumFrom_106 lk_12_344 rfl rfl rfl (c_X12_sumOf (aK_i ?_))
                refine wp_cS (pc := 109) dX12_sumFrom_109 lk_12_344 rfl rfl rfl (c_X12_sumOf (aK_i ?_))
                refine wp_cS (pc := 112) dX12_sumFrom_112 lk_12_344 rfl rfl rfl (c_X12_sumOf (aK_i ?_))
                refine wp_iretK (pc := 115) dX12_sumFrom_115 rfl (by first | rfl | decide | assumption) ?_
                refine wp_icmp_ne (pc := 81) (tgt := 88) dX12_proves_81 rfl (fun _ => ?_) (fun q => absurd q (by rw [root_eq hR]; exact c5))
                refine wp_iconst (pc := 88) (v := 0) dX12_proves_88 (by decide) ?_
                refine wp_ireturn (pc := 89) dX12_proves_89 rfl (by first | rfl | decide | assumption) ?_
                exact k' _ hI
            | 6, _ =>
              by_cases c5 : sm2 (z) (sm2 (y) (sm2 (v) (x))) = μ.1 53 1
              · skip
                refine wp_iload_n (pc := 0) dX11_proves_0 (by first | rfl | assumption | (repeat first | assumption | rfl | refine aG_n ?_ rfl rfl)) ?_
                refine wp_iconst (pc := 1) (v := 0) dX11_proves_1 (by decide) ?_
                refine wp_bipush (pc := 2) (v := 7) dX11_proves_2 (by decide) ?_
                refine wp_cS (pc := 4) dX11_proves_4 lk_11_112 rfl rfl rfl (c_X11_isWithin (fun _ => aK_i ?_) (fun q => absurd c0 q))
                refine wp_if_eq (pc := 7) (tgt := 40) dX11_proves_7 rfl (fun q => absurd q (by decide)) (fun _ => ?_)
                refine wp_iload_n (pc := 10) dX11_proves_10 (by first | rfl | assumption | (repeat first | assumption | rfl | refine aG_n ?_ rfl rfl)) ?_
                refine wp_cS (pc := 11) dX11_proves_11 lk_11_355 rfl rfl rfl (c_X11_isSum (fun _ => aK_i ?_) (fun q => absurd c1 q))
                refine wp_if_eq (pc := 14) (tgt := 40) dX11_proves_14 rfl (fun q => absurd q (by decide)) (fun _ => ?_)
                refine wp_iload_n (pc := 17) dX11_proves_17 (by first | rfl | assumption | (repeat first | assumption | rfl | refine aG_n ?_ rfl rfl)) ?_
                refine wp_cS (pc := 18) dX11_proves_18 lk_11_355 rfl rfl rfl (c_X11_isSum (fun _ => aK_i ?_) (fun q => absurd c2 q))
                refine wp_if_eq (pc := 21) (tgt := 40) dX11_proves_21 rfl (fun q => absurd q (by decide)) (fun _ => ?_)
                refine wp_iload (pc := 24) dX11_proves_24 (by first | rfl | assumption | (repeat first | assumption | rfl | refine aG_n ?_ rfl rfl)) ?_
                refine wp_cS (pc := 26) dX11_proves_26 lk_11_355 rfl rfl rfl (c_X11_isSum (fun _ => aK_i ?_) (fun q => absurd c3 q))
                refine wp_if_eq (pc := 29) (tgt := 40) dX11_proves_29 rfl (fun q => absurd q (by decide)) (fun _ => ?_)
                refine wp_iload (pc := 32) dX11_proves_32 (by first | rfl | assumption | (repeat first | assumption | rfl | refine aG_n ?_ rfl rfl)) ?_
                refine wp_cS (pc := 34) dX11_proves_34 lk_11_355 rfl rfl rfl (c_X11_isSum (fun _ => aK_i ?_) (fun q => absurd c4 q))
                refine wp_if_ne (pc := 37) (tgt := 42) dX11_proves_37 rfl (fun _ => ?_) (fun q => absurd q (by decide))
                refine wp_iload_n (pc := 42) dX11_proves_42 (by first | rfl | assumption | (repeat first | assumption | rfl | refine aG_n ?_ rfl rfl)) ?_
                refine wp_iload_n (pc := 43) dX11_proves_43 (by first | rfl | assumption | (repeat first | assumption | rfl | refine aG_n ?_ rfl rfl)) ?_
                refine wp_iload_n (pc := 44) dX11_proves_44 (by first | rfl | assumption | (repeat first | assumption | rfl | refine aG_n ?_ rfl rfl)) ?_
                refine wp_cS (pc := 45) dX11_proves_45 lk_11_358 rfl rfl rfl ?_
                refine wp_iload_n (pc := 0) dX5_climb_0 (by first | rfl | assumption | (repeat first | assumption | rfl | refine aG_n ?_ rfl rfl)) ?_
                refine wp_iconst (pc := 1) (v := 1) dX5_climb_1 (by decide) ?_
                refine wp_iand (pc := 2) dX5_climb_2 ?_
                refine wp_if_ne (pc := 3) (tgt := 14) dX5_climb_3 rfl (fun q => absurd q (by decide)) (fun _ => ?_)
                refine wp_iload_n (pc := 6) dX5_climb_6 (by first | rfl | assumption | (repeat first | assumption | rfl | refine aG_n ?_ rfl rfl)) ?_
                refine wp_iload_n (pc := 7) dX5_climb_7 (by first | rfl | assumption | (repeat first | assumption | rfl | refine aG_n ?_ rfl rfl)) ?_
                refine wp_cS (pc := 8) dX5_climb_8 lk_5_13 rfl rfl rfl (c_X5_sum (aK_i ?_))
                refine wp_goto (pc := 11) (tgt := 19) dX5_climb_11 rfl ?_
                refine wp_iretK (pc := 19) dX5_climb_19 rfl (by first | rfl | decide | assumption) ?_
                refine wp_istore (pc := 48) dX11_proves_48 (by decide) ?_
                refine wp_iload_n (pc := 50) dX11_proves_50 (by first | rfl | assumption | (repeat first | assumption | rfl | refine aG_n ?_ rfl rfl)) ?_
                refine wp_iconst (pc := 51) (v := 1) dX11_proves_51 (by decide) ?_
                refine wp_ishr (pc := 52) dX11_proves_52 ?_
                refine wp_iload (pc := 53) dX11_proves_53 (by first | rfl | assumption | (repeat first | assumption | rfl | refine aG_n ?_ rfl rfl)) ?_
                refine wp_iload (pc := 55) dX11_proves_55 (by first | rfl | assumption | (repeat first | assumption | rfl | refine aG_n ?_ rfl rfl)) ?_
                refine wp_cS (pc := 57) dX11_proves_57 lk_11_358 rfl rfl rfl ?_
                refine wp_iload_n (pc := 0) dX5_climb_0 (by first | rfl | assumption | (repeat first | assumption | rfl | refine aG_n ?_ rfl rfl)) ?_
                refine wp_iconst (pc := 1) (v := 1) dX5_climb_1 (by decide) ?_
                refine wp_iand (pc := 2) dX5_climb_2 ?_
                refine wp_if_ne (pc := 3) (tgt := 14) dX5_climb_3 rfl (fun _ => ?_) (fun q => absurd q (by decide))
                refine wp_iload_n (pc := 14) dX5_climb_14 (by first | rfl | assumption | (repeat first | assumption | rfl | refine aG_n ?_ rfl rfl)) ?_
                refine wp_iload_n (pc := 15) dX5_climb_15 (by first | rfl | assumption | (repeat first | assumption | rfl | refine aG_n ?_ rfl rfl)) ?_
                refine wp_cS (pc := 16) dX5_climb_16 lk_5_13 rfl rfl rfl (c_X5_sum (aK_i ?_))
                refine wp_iretK (pc := 19) dX5_climb_19 rfl (by first | rfl | decide | assumption) ?_
                refine wp_istore (pc := 60) dX11_proves_60 (by decide) ?_
                refine wp_iload_n (pc := 62) dX11_proves_62 (by first | rfl | assumption | (repeat first | assumption | rfl | refine aG_n ?_ rfl rfl)) ?_
                refine wp_iconst (pc := 63) (v := 2) dX11_proves_63 (by decide) ?_
                refine wp_ishr (pc := 64) dX11_proves_64 ?_
                refine wp_iload (pc := 65) dX11_proves_65 (by first | rfl | assumption | (repeat first | assumption | rfl | refine aG_n ?_ rfl rfl)) ?_
                refine wp_iload (pc := 67) dX11_proves_67 (by first | rfl | assumption | (repeat first | assumption | rfl | refine aG_n ?_ rfl rfl)) ?_
                refine wp_cS (pc := 69) dX11_proves_69 lk_11_358 rfl rfl rfl ?_
                refine wp_iload_n (pc := 0) dX5_climb_0 (by first | rfl | assumption | (repeat first | assumption | rfl | refine aG_n ?_ rfl rfl)) ?_
                refine wp_iconst (pc := 1) (v := 1) dX5_climb_1 (by decide) ?_
                refine wp_iand (pc := 2) dX5_climb_2 ?_
                refine wp_if_ne (pc := 3) (tgt := 14) dX5_climb_3 rfl (fun _ => ?_) (fun q => absurd q (by decide))
                refine wp_iload_n (pc := 14) dX5_climb_14 (by first | rfl | assumption | (repeat first | assumption | rfl | refine aG_n ?_ rfl rfl)) ?_
                refine wp_iload_n (pc := 15) dX5_climb_15 (by first | rfl | assumption | (repeat first | assumption | rfl | refine aG_n ?_ rfl rfl)) ?_
                refine wp_cS (pc := 16) dX5_climb_16 lk_5_13 rfl rfl rfl (c_X5_sum (aK_i ?_))
                refine wp_iretK (pc := 19) dX5_climb_19 rfl (by first | rfl | decide | assumption) ?_
                refine wp_istore (pc := 72) dX11_proves_72 (by decide) ?_
                refine wp_iload (pc := 74) dX11_proves_74 (by first | rfl | assumption | (repeat first | assumption | rfl | refine aG_n ?_ rfl rfl)) ?_
                refine wp_aload_n (pc := 76) dX11_proves_76 (by first | rfl | assumption | (repeat first | assumption | rfl | refine aG_n ?_ rfl rfl)) ?_
                refine wp_getR (pc := 77) dX11_proves_77 fl_11_60 (by first | rfl | assumption | exact sh_house (by omega) | exact sh_wish (by omega) | exact sh_wor (by omega) | exact sh_bar (by omega) | exact sh_term (by omega) | exact sh_sheet (by omega) | exact sh_items (by omega) | exact sh_sums (by omega)) rfl ?_
                refine wp_getR (pc := 80) dX11_proves_80 fl_11_349 (by first | rfl | assumption | exact sh_house (by omega) | exact sh_wish (by omega) | exact sh_wor (by omega) | exact sh_bar (by omega) | exact sh_term (by omega) | exact sh_sheet (by omega) | exact sh_items (by omega) | exact sh_sums (by omega)) rfl ?_
                refine wp_iconst (pc := 83) (v := 1) dX11_proves_83 (by decide) ?_
                refine wp_ialdC (pc := 84) (j := 1) dX11_proves_84 (by first | rfl | assumption | exact sh_house (by omega) | exact sh_wish (by omega) | exact sh_wor (by omega) | exact sh_bar (by omega) | exact sh_term (by omega) | exact sh_sheet (by omega) | exact sh_items (by omega) | exact sh_sums (by omega)) (by decide) (by decide) ?_
                refine wp_icmp_ne (pc := 85) (tgt := 92) dX11_proves_85 rfl (fun q => absurd c5 q) (fun _ => ?_)
                refine wp_iconst (pc := 88) (v := 1) dX11_proves_88 (by decide) ?_
                refine wp_goto (pc := 89) (tgt := 93) dX11_proves_89 rfl ?_
                refine wp_cS (pc := 93) dX11_proves_93 lk_11_148 rfl rfl rfl ?_
                refine wp_iload_n (pc := 0) dX11_oneIf_0 (by first | rfl | assumption | (repeat first | assumption | rfl | refine aG_n ?_ rfl rfl)) ?_
                refine wp_if_eq (pc := 1) (tgt := 8) dX11_oneIf_1 rfl (fun q => absurd q (by decide)) (fun _ => ?_)
                refine wp_iconst (pc := 4) (v := 1) dX11_oneIf_4 (by decide) ?_
                refine wp_goto (pc := 5) (tgt := 9) dX11_oneIf_5 rfl ?_
                refine wp_iretK (pc := 9) dX11_oneIf_9 rfl (by first | rfl | decide | assumption) ?_
                refine wp_ireturn (pc := 96) dX11_proves_96 rfl (by first | rfl | decide | assumption) ?_
                refine k _ _ (fun Q' k' => ?_)
                refine wp_iload_n (pc := 0) dX12_proves_0 (by first | rfl | assumption | (repeat first | assumption | rfl | refine aG_n ?_ rfl rfl)) ?_
                refine wp_i2l (pc := 1) dX12_proves_1 ?_
                refine wp_lconst (pc := 2) (v := 0) dX12_proves_2 (by decide) ?_
                refine wp_ldc2 (pc := 3) dX12_proves_3 cl_12_347 ?_
                refine wp_cS (pc := 6) dX12_proves_6 lk_12_133 rfl rfl rfl (c_X12_in (fun _ => aK_i ?_) (fun q => absurd (by rw [w_int]; exact c0) q))
                refine wp_if_eq (pc := 9) (tgt := 42) dX12_proves_9 rfl (fun q => absurd q (by decide)) (fun _ => ?_)
                refine wp_iload_n (pc := 12) dX12_proves_12 (by first | rfl | assumption | (repeat first | assumption | rfl | refine aG_n ?_ rfl rfl)) ?_
                refine wp_cS (pc := 13) dX12_proves_13 lk_12_354 rfl rfl rfl (c_X12_isSum (fun _ => aK_i ?_) (fun q => absurd c1 q))
                refine wp_if_eq (pc := 16) (tgt := 42) dX12_proves_16 rfl (fun q => absurd q (by decide)) (fun _ => ?_)
                refine wp_iload_n (pc := 19) dX12_proves_19 (by first | rfl | assumption | (repeat first | assumption | rfl | refine aG_n ?_ rfl rfl)) ?_
                refine wp_cS (pc := 20) dX12_proves_20 lk_12_354 rfl rfl rfl (c_X12_isSum (fun _ => aK_i ?_) (fun q => absurd c2 q))
                refine wp_if_eq (pc := 23) (tgt := 42) dX12_proves_23 rfl (fun q => absurd q (by decide)) (fun _ => ?_)
                refine wp_iload (pc := 26) dX12_proves_26 (by first | rfl | assumption | (repeat first | assumption | rfl | refine aG_n ?_ rfl rfl)) ?_
                refine wp_cS (pc := 28) dX12_proves_28 lk_12_354 rfl rfl rfl (c_X12_isSum (fun _ => aK_i ?_) (fun q => absurd c3 q))
                refine wp_if_eq (pc := 31) (tgt := 42) dX12_proves_31 rfl (fun q => absurd q (by decide)) (fun _ => ?_)
                refine wp_iload (pc := 34) dX12_proves_34 (by first | rfl | assumption | (repeat first | assumption | rfl | refine aG_n ?_ rfl rfl)) ?_
                refine wp_cS (pc := 36) dX12_proves_36 lk_12_354 rfl rfl rfl (c_X12_isSum (fun _ => aK_i ?_) (fun q => absurd c4 q))
                refine wp_if_ne (pc := 39) (tgt := 44) dX12_proves_39 rfl (fun _ => ?_) (fun q => absurd q (by decide))
                refine wp_iload_n (pc := 44) dX12_proves_44 (by first | rfl | assumption | (repeat first | assumption | rfl | refine aG_n ?_ rfl rfl)) ?_
                refine wp_iload_n (pc := 45) dX12_proves_45 (by first | rfl | assumption | (repeat first | assumption | rfl | refine aG_n ?_ rfl rfl)) ?_
                refine wp_iload_n (pc := 46) dX12_proves_46 (by first | rfl | assumption | (repeat first | assumption | rfl | refine aG_n ?_ rfl rfl)) ?_
                refine wp_cS (pc := 47) dX12_proves_47 lk_12_357 rfl rfl rfl ?_
                refine wp_iload_n (pc := 0) dX12_sumBeside_0 (by first | rfl | assumption | (repeat first | assumption | rfl | refine aG_n ?_ rfl rfl)) ?_
                refine wp_iconst (pc := 1) (v := 2) dX12_sumBeside_1 (by decide) ?_
                refine wp_irem (pc := 2) dX12_sumBeside_2 (by decide) ?_
                refine wp_if_ne (pc := 3) (tgt := 14) dX12_sumBeside_3 rfl (fun q => absurd q (by decide)) (fun _ => ?_)
                refine wp_iload_n (pc := 6) dX12_sumBeside_6 (by first | rfl | assumption | (repeat first | assumption | rfl | refine aG_n ?_ rfl rfl)) ?_
                refine wp_iload_n (pc := 7) dX12_sumBeside_7 (by first | rfl | assumption | (repeat first | assumption | rfl | refine aG_n ?_ rfl rfl)) ?_
                refine wp_cS (pc := 8) dX12_sumBeside_8 lk_12_344 rfl rfl rfl (c_X12_sumOf (aK_i ?_))
                refine wp_goto (pc := 11) (tgt := 19) dX12_sumBeside_11 rfl ?_
                refine wp_iretK (pc := 19) dX12_sumBeside_19 rfl (by first | rfl | decide | assumption) ?_
                refine wp_istore (pc := 50) dX12_proves_50 (by decide) ?_
                refine wp_iload_n (pc := 52) dX12_proves_52 (by first | rfl | assumption | (repeat first | assumption | rfl | refine aG_n ?_ rfl rfl)) ?_
                refine wp_iconst (pc := 53) (v := 2) dX12_proves_53 (by decide) ?_
                refine wp_idiv (pc := 54) dX12_proves_54 (by decide) ?_
                refine wp_iload (pc := 55) dX12_proves_55 (by first | rfl | assumption | (repeat first | assumption | rfl | refine aG_n ?_ rfl rfl)) ?_
                refine wp_iload (pc := 57) dX12_proves_57 (by first | rfl | assumption | (repeat first | assumption | rfl | refine aG_n ?_ rfl rfl)) ?_
                refine wp_cS (pc := 59) dX12_proves_59 lk_12_357 rfl rfl rfl ?_
                refine wp_iload_n (pc := 0) dX12_sumBeside_0 (by first | rfl | assumption | (repeat first | assumption | rfl | refine aG_n ?_ rfl rfl)) ?_
                refine wp_iconst (pc := 1) (v := 2) dX12_sumBeside_1 (by decide) ?_
                refine wp_irem (pc := 2) dX12_sumBeside_2 (by decide) ?_
                refine wp_if_ne (pc := 3) (tgt := 14) dX12_sumBeside_3 rfl (fun _ => ?_) (fun q => absurd q (by decide))
                refine wp_iload_n (pc := 14) dX12_sumBeside_14 (by first | rfl | assumption | (repeat first | assumption | rfl | refine aG_n ?_ rfl rfl)) ?_
                refine wp_iload_n (pc := 15) dX12_sumBeside_15 (by first | rfl | assumption | (repeat first | assumption | rfl | refine aG_n ?_ rfl rfl)) ?_
                refine wp_cS (pc := 16) dX12_sumBeside_16 lk_12_344 rfl rfl rfl (c_X12_sumOf (aK_i ?_))
                refine wp_iretK (pc := 19) dX12_sumBeside_19 rfl (by first | rfl | decide | assumption) ?_
                refine wp_istore (pc := 62) dX12_proves_62 (by decide) ?_
                refine wp_iload_n (pc := 64) dX12_proves_64 (by first | rfl | assumption | (repeat first | assumption | rfl | refine aG_n ?_ rfl rfl)) ?_
                refine wp_iconst (pc := 65) (v := 4) dX12_proves_65 (by decide) ?_
                refine wp_idiv (pc := 66) dX12_proves_66 (by decide) ?_
                refine wp_iload (pc := 67) dX12_proves_67 (by first | rfl | assumption | (repeat first | assumption | rfl | refine aG_n ?_ rfl rfl)) ?_
                refine wp_iload (pc := 69) dX12_proves_69 (by first | rfl | assumption | (repeat first | assumption | rfl | refine aG_n ?_ rfl rfl)) ?_
                refine wp_cS (pc := 71) dX12_proves_71 lk_12_357 rfl rfl rfl ?_
                refine wp_iload_n (pc := 0) dX12_sumBeside_0 (by first | rfl | assumption | (repeat first | assumption | rfl | refine aG_n ?_ rfl rfl)) ?_
                refine wp_iconst (pc := 1) (v := 2) dX12_sumBeside_1 (by decide) ?_
                refine wp_irem (pc := 2) dX12_sumBeside_2 (by decide) ?_
                refine wp_if_ne (pc := 3) (tgt := 14) dX12_sumBeside_3 rfl (fun _ => ?_) (fun q => absurd q (by decide))
                refine wp_iload_n (pc := 14) dX12_sumBeside_14 (by first | rfl | assumption | (repeat first | assumption | rfl | refine aG_n ?_ rfl rfl)) ?_
                refine wp_iload_n (pc := 15) dX12_sumBeside_15 (by first | rfl | assumption | (repeat first | assumption | rfl | refine aG_n ?_ rfl rfl)) ?_
                refine wp_cS (pc := 16) dX12_sumBeside_16 lk_12_344 rfl rfl rfl (c_X12_sumOf (aK_i ?_))
                refine wp_iretK (pc := 19) dX12_sumBeside_19 rfl (by first | rfl | decide | assumption) ?_
                refine wp_aload_n (pc := 74) dX12_proves_74 (by first | rfl | assumption | (repeat first | assumption | rfl | refine aG_n ?_ rfl rfl)) ?_
                refine wp_iconst (pc := 75) (v := 0) dX12_proves_75 (by decide) ?_
                refine wp_bipush (pc := 76) (v := 8) dX12_proves_76 (by decide) ?_
                refine wp_cV (pc := 78) dX12_proves_78 lk_12_349 rfl (by decide) rfl (by first | rfl | assumption | exact sh_house (by omega) | exact sh_wish (by omega) | exact sh_wor (by omega) | exact sh_bar (by omega) | exact sh_term (by omega) | exact sh_sheet (by omega) | exact sh_items (by omega) | exact sh_sums (by omega)) rfl rfl ?_
                refine wp_aload_n (pc := 0) dX12_sumFrom_0 (by first | rfl | assumption | (repeat first | assumption | rfl | refine aG_n ?_ rfl rfl)) ?_
                refine wp_getR (pc := 1) dX12_sumFrom_1 fl_12_119 (by first | rfl | assumption | exact sh_house (by omega) | exact sh_wish (by omega) | exact sh_wor (by omega) | exact sh_bar (by omega) | exact sh_term (by omega) | exact sh_sheet (by omega) | exact sh_items (by omega) | exact sh_sums (by omega)) rfl ?_
                refine wp_iload_n (pc := 4) dX12_sumFrom_4 (by first | rfl | assumption | (repeat first | assumption | rfl | refine aG_n ?_ rfl rfl)) ?_
                refine wp_ialdC (pc := 5) (j := 0) dX12_sumFrom_5 (by first | rfl | assumption | exact sh_house (by omega) | exact sh_wish (by omega) | exact sh_wor (by omega) | exact sh_bar (by omega) | exact sh_term (by omega) | exact sh_sheet (by omega) | exact sh_items (by omega) | exact sh_sums (by omega)) (by decide) (by decide) ?_
                refine wp_aload_n (pc := 6) dX12_sumFrom_6 (by first | rfl | assumption | (repeat first | assumption | rfl | refine aG_n ?_ rfl rfl)) ?_
                refine wp_getR (pc := 7) dX12_sumFrom_7 fl_12_119 (by first | rfl | assumption | exact sh_house (by omega) | exact sh_wish (by omega) | exact sh_wor (by omega) | exact sh_bar (by omega) | exact sh_term (by omega) | exact sh_sheet (by omega) | exact sh_items (by omega) | exact sh_sums (by omega)) rfl ?_
                refine wp_iload_n (pc := 10) dX12_sumFrom_10 (by first | rfl | assumption | (repeat first | assumption | rfl | refine aG_n ?_ rfl rfl)) ?_
                refine wp_iconst (pc := 11) (v := 1) dX12_sumFrom_11 (by decide) ?_
                refine wp_iadd (pc := 12) dX12_sumFrom_12 ?_
                refine wp_bipush (pc := 13) (v := 8) dX12_sumFrom_13 (by decide) ?_
                refine wp_irem (pc := 15) dX12_sumFrom_15 (by decide) ?_
                refine wp_ialdC (pc := 16) (j := 1) dX12_sumFrom_16 (by first | rfl | assumption | exact sh_house (by omega) | exact sh_wish (by omega) | exact sh_wor (by omega) | exact sh_bar (by omega) | exact sh_term (by omega) | exact sh_sheet (by omega) | exact sh_items (by omega) | exact sh_sums (by omega)) (by decide) (by decide) ?_
                refine wp_cS (pc := 17) dX12_sumFrom_17 lk_12_344 rfl rfl rfl (c_X12_sumOf (aK_i ?_))
                refine wp_istore_n (pc := 20) dX12_sumFrom_20 (by decide) ?_
                refine wp_iload_n (pc := 21) dX12_sumFrom_21 (by first | rfl | assumption | (repeat first | assumption | rfl | refine aG_n ?_ rfl rfl)) ?_
                refine wp_iconst (pc := 22) (v := 4) dX12_sumFrom_22 (by decide) ?_
                refine wp_icmp_ge (pc := 23) (tgt := 42) dX12_sumFrom_23 rfl (fun _ => ?_) (fun q => absurd q (by decide))
                refine wp_iload_n (pc := 42) dX12_sumFrom_42 (by first | rfl | assumption | (repeat first | assumption | rfl | refine aG_n ?_ rfl rfl)) ?_
                refine wp_aload_n (pc := 43) dX12_sumFrom_43 (by first | rfl | assumption | (repeat first | assumption | rfl | refine aG_n ?_ rfl rfl)) ?_
                refine wp_getR (pc := 44) dX12_sumFrom_44 fl_12_119 (by first | rfl | assumption | exact sh_house (by omega) | exact sh_wish (by omega) | exact sh_wor (by omega) | exact sh_bar (by omega) | exact sh_term (by omega) | exact sh_sheet (by omega) | exact sh_items (by omega) | exact sh_sums (by omega)) rfl ?_
                refine wp_iload_n (pc := 47) dX12_sumFrom_47 (by first | rfl | assumption | (repeat first | assumption | rfl | refine aG_n ?_ rfl rfl)) ?_
                refine wp_iconst (pc := 48) (v := 2) dX12_sumFrom_48 (by decide) ?_
                refine wp_iadd (pc := 49) dX12_sumFrom_49 ?_
                refine wp_ialdC (pc := 50) (j := 2) dX12_sumFrom_50 (by first | rfl | assumption | exact sh_house (by omega) | exact sh_wish (by omega) | exact sh_wor (by omega) | exact sh_bar (by omega) | exact sh_term (by omega) | exact sh_sheet (by omega) | exact sh_items (by omega) | exact sh_sums (by omega)) (by decide) (by decide) ?_
                refine wp_aload_n (pc := 51) dX12_sumFrom_51 (by first | rfl | assumption | (repeat first | assumption | rfl | refine aG_n ?_ rfl rfl)) ?_
                refine wp_getR (pc := 52) dX12_sumFrom_52 fl_12_119 (by first | rfl | assumption | exact sh_house (by omega) | exact sh_wish (by omega) | exact sh_wor (by omega) | exact sh_bar (by omega) | exact sh_term (by omega) | exact sh_sheet (by omega) | exact sh_items (by omega) | exact sh_sums (by omega)) rfl ?_
                refine wp_iload_n (pc := 55) dX12_sumFrom_55 (by first | rfl | assumption | (repeat first | assumption | rfl | refine aG_n ?_ rfl rfl)) ?_
                refine wp_iconst (pc := 56) (v := 3) dX12_sumFrom_56 (by decide) ?_
                refine wp_iadd (pc := 57) dX12_sumFrom_57 ?_
                refine wp_ialdC (pc := 58) (j := 3) dX12_sumFrom_58 (by first | rfl | assumption | exact sh_house (by omega) | exact sh_wish (by omega) | exact sh_wor (by omega) | exact sh_bar (by omega) | exact sh_term (by omega) | exact sh_sheet (by omega) | exact sh_items (by omega) | exact sh_sums (by omega)) (by decide) (by decide) ?_
                refine wp_cS (pc := 59) dX12_sumFrom_59 lk_12_344 rfl rfl rfl (c_X12_sumOf (aK_i ?_))
                refine wp_cS (pc := 62) dX12_sumFrom_62 lk_12_344 rfl rfl rfl (c_X12_sumOf (aK_i ?_))
                refine wp_istore (pc := 65) dX12_sumFrom_65 (by decide) ?_
                refine wp_iload_n (pc := 67) dX12_sumFrom_67 (by first | rfl | assumption | (repeat first | assumption | rfl | refine aG_n ?_ rfl rfl)) ?_
                refine wp_iconst (pc := 68) (v := 4) dX12_sumFrom_68 (by decide) ?_
                refine wp_icmp_ne (pc := 69) (tgt := 75) dX12_sumFrom_69 rfl (fun _ => ?_) (fun q => absurd q (by decide))
                refine wp_iload (pc := 75) dX12_sumFrom_75 (by first | rfl | assumption | (repeat first | assumption | rfl | refine aG_n ?_ rfl rfl)) ?_
                refine wp_aload_n (pc := 77) dX12_sumFrom_77 (by first | rfl | assumption | (repeat first | assumption | rfl | refine aG_n ?_ rfl rfl)) ?_
                refine wp_getR (pc := 78) dX12_sumFrom_78 fl_12_119 (by first | rfl | assumption | exact sh_house (by omega) | exact sh_wish (by omega) | exact sh_wor (by omega) | exact sh_bar (by omega) | exact sh_term (by omega) | exact sh_sheet (by omega) | exact sh_items (by omega) | exact sh_sums (by omega)) rfl ?_
                refine wp_iconst (pc := 81) (v := 4) dX12_sumFrom_81 (by decide) ?_
                refine wp_ialdC (pc := 82) (j := 4) dX12_sumFrom_82 (by first | rfl | assumption | exact sh_house (by omega) | exact sh_wish (by omega) | exact sh_wor (by omega) | exact sh_bar (by omega) | exact sh_term (by omega) | exact sh_sheet (by omega) | exact sh_items (by omega) | exact sh_sums (by omega)) (by decide) (by decide) ?_
                refine wp_aload_n (pc := 83) dX12_sumFrom_83 (by first | rfl | assumption | (repeat first | assumption | rfl | refine aG_n ?_ rfl rfl)) ?_
                refine wp_getR (pc := 84) dX12_sumFrom_84 fl_12_119 (by first | rfl | assumption | exact sh_house (by omega) | exact sh_wish (by omega) | exact sh_wor (by omega) | exact sh_bar (by omega) | exact sh_term (by omega) | exact sh_sheet (by omega) | exact sh_items (by omega) | exact sh_sums (by omega)) rfl ?_
                refine wp_iconst (pc := 87) (v := 5) dX12_sumFrom_87 (by decide) ?_
                refine wp_ialdC (pc := 88) (j := 5) dX12_sumFrom_88 (by first | rfl | assumption | exact sh_house (by omega) | exact sh_wish (by omega) | exact sh_wor (by omega) | exact sh_bar (by omega) | exact sh_term (by omega) | exact sh_sheet (by omega) | exact sh_items (by omega) | exact sh_sums (by omega)) (by decide) (by decide) ?_
                refine wp_cS (pc := 89) dX12_sumFrom_89 lk_12_344 rfl rfl rfl (c_X12_sumOf (aK_i ?_))
                refine wp_aload_n (pc := 92) dX12_sumFrom_92 (by first | rfl | assumption | (repeat first | assumption | rfl | refine aG_n ?_ rfl rfl)) ?_
                refine wp_getR (pc := 93) dX12_sumFrom_93 fl_12_119 (by first | rfl | assumption | exact sh_house (by omega) | exact sh_wish (by omega) | exact sh_wor (by omega) | exact sh_bar (by omega) | exact sh_term (by omega) | exact sh_sheet (by omega) | exact sh_items (by omega) | exact sh_sums (by omega)) rfl ?_
                refine wp_bipush (pc := 96) (v := 6) dX12_sumFrom_96 (by decide) ?_
                refine wp_ialdC (pc := 98) (j := 6) dX12_sumFrom_98 (by first | rfl | assumption | exact sh_house (by omega) | exact sh_wish (by omega) | exact sh_wor (by omega) | exact sh_bar (by omega) | exact sh_term (by omega) | exact sh_sheet (by omega) | exact sh_items (by omega) | exact sh_sums (by omega)) (by decide) (by decide) ?_
                refine wp_aload_n (pc := 99) dX12_sumFrom_99 (by first | rfl | assumption | (repeat first | assumption | rfl | refine aG_n ?_ rfl rfl)) ?_
                refine wp_getR (pc := 100) dX12_sumFrom_100 fl_12_119 (by first | rfl | assumption | exact sh_house (by omega) | exact sh_wish (by omega) | exact sh_wor (by omega) | exact sh_bar (by omega) | exact sh_term (by omega) | exact sh_sheet (by omega) | exact sh_items (by omega) | exact sh_sums (by omega)) rfl ?_
                refine wp_bipush (pc := 103) (v := 7) dX12_sumFrom_103 (by decide) ?_
                refine wp_ialdC (pc := 105) (j := 7) dX12_sumFrom_105 (by first | rfl | assumption | exact sh_house (by omega) | exact sh_wish (by omega) | exact sh_wor (by omega) | exact sh_bar (by omega) | exact sh_term (by omega) | exact sh_sheet (by omega) | exact sh_items (by omega) | exact sh_sums (by omega)) (by decide) (by decide) ?_
                refine wp_cS (pc := 106) dX12_sumFrom_106 lk_12_344 rfl rfl rfl (c_X12_sumOf (aK_i ?_))
                refine wp_cS (pc := 109) dX12_sumFrom_109 lk_12_344 rfl rfl rfl (c_X12_sumOf (aK_i ?_))
                refine wp_cS (pc := 112) dX12_sumFrom_112 lk_12_344 rfl rfl rfl (c_X12_sumOf (aK_i ?_))
                refine wp_iretK (pc := 115) dX12_sumFrom_115 rfl (by first | rfl | decide | assumption) ?_
                refine wp_icmp_ne (pc := 81) (tgt := 88) dX12_proves_81 rfl (fun q => absurd (by rw [root_eq hR]; exact c5) q) (fun _ => ?_)
                refine wp_iconst (pc := 84) (v := 1) dX12_proves_84 (by decide) ?_
                refine wp_goto (pc := 85) (tgt := 89) dX12_proves_85 rfl ?_
                refine wp_ireturn (pc := 89) dX12_proves_89 rfl (by first | rfl | decide | assumption) ?_
                exact k' _ hI
              · skip
                refine wp_iload_n (pc := 0) dX11_proves_0 (by first | rfl | assumption | (repeat first | assumption | rfl | refine aG_n ?_ rfl rfl)) ?_
                refine wp_iconst (pc := 1) (v := 0) dX11_proves_1 (by decide) ?_
                refine wp_bipush (pc := 2) (v := 7) dX11_proves_2 (by decide) ?_
                refine wp_cS (pc := 4) dX11_proves_4 lk_11_112 rfl rfl rfl (c_X11_isWithin (fun _ => aK_i ?_) (fun q => absurd c0 q))
                refine wp_if_eq (pc := 7) (tgt := 40) dX11_proves_7 rfl (fun q => absurd q (by decide)) (fun _ => ?_)
                refine wp_iload_n (pc := 10) dX11_proves_10 (by first | rfl | assumption | (repeat first | assumption | rfl | refine aG_n ?_ rfl rfl)) ?_
                refine wp_cS (pc := 11) dX11_proves_11 lk_11_355 rfl rfl rfl (c_X11_isSum (fun _ => aK_i ?_) (fun q => absurd c1 q))
                refine wp_if_eq (pc := 14) (tgt := 40) dX11_proves_14 rfl (fun q => absurd q (by decide)) (fun _ => ?_)
                refine wp_iload_n (pc := 17) dX11_proves_17 (by first | rfl | assumption | (repeat first | assumption | rfl | refine aG_n ?_ rfl rfl)) ?_
                refine wp_cS (pc := 18) dX11_proves_18 lk_11_355 rfl rfl rfl (c_X11_isSum (fun _ => aK_i ?_) (fun q => absurd c2 q))
                refine wp_if_eq (pc := 21) (tgt := 40) dX11_proves_21 rfl (fun q => absurd q (by decide)) (fun _ => ?_)
                refine wp_iload (pc := 24) dX11_proves_24 (by first | rfl | assumption | (repeat first | assumption | rfl | refine aG_n ?_ rfl rfl)) ?_
                refine wp_cS (pc := 26) dX11_proves_26 lk_11_355 rfl rfl rfl (c_X11_isSum (fun _ => aK_i ?_) (fun q => absurd c3 q))
                refine wp_if_eq (pc := 29) (tgt := 40) dX11_proves_29 rfl (fun q => absurd q (by decide)) (fun _ => ?_)
                refine wp_iload (pc := 32) dX11_proves_32 (by first | rfl | assumption | (repeat first | assumption | rfl | refine aG_n ?_ rfl rfl)) ?_
                refine wp_cS (pc := 34) dX11_proves_34 lk_11_355 rfl rfl rfl (c_X11_isSum (fun _ => aK_i ?_) (fun q => absurd c4 q))
                refine wp_if_ne (pc := 37) (tgt := 42) dX11_proves_37 rfl (fun _ => ?_) (fun q => absurd q (by decide))
                refine wp_iload_n (pc := 42) dX11_proves_42 (by first | rfl | assumption | (repeat first | assumption | rfl | refine aG_n ?_ rfl rfl)) ?_
                refine wp_iload_n (pc := 43) dX11_proves_43 (by first | rfl | assumption | (repeat first | assumption | rfl | refine aG_n ?_ rfl rfl)) ?_
                refine wp_iload_n (pc := 44) dX11_proves_44 (by first | rfl | assumption | (repeat first | assumption | rfl | refine aG_n ?_ rfl rfl)) ?_
                refine wp_cS (pc := 45) dX11_proves_45 lk_11_358 rfl rfl rfl ?_
                refine wp_iload_n (pc := 0) dX5_climb_0 (by first | rfl | assumption | (repeat first | assumption | rfl | refine aG_n ?_ rfl rfl)) ?_
                refine wp_iconst (pc := 1) (v := 1) dX5_climb_1 (by decide) ?_
                refine wp_iand (pc := 2) dX5_climb_2 ?_
                refine wp_if_ne (pc := 3) (tgt := 14) dX5_climb_3 rfl (fun q => absurd q (by decide)) (fun _ => ?_)
                refine wp_iload_n (pc := 6) dX5_climb_6 (by first | rfl | assumption | (repeat first | assumption | rfl | refine aG_n ?_ rfl rfl)) ?_
                refine wp_iload_n (pc := 7) dX5_climb_7 (by first | rfl | assumption | (repeat first | assumption | rfl | refine aG_n ?_ rfl rfl)) ?_
                refine wp_cS (pc := 8) dX5_climb_8 lk_5_13 rfl rfl rfl (c_X5_sum (aK_i ?_))
                refine wp_goto (pc := 11) (tgt := 19) dX5_climb_11 rfl ?_
                refine wp_iretK (pc := 19) dX5_climb_19 rfl (by first | rfl | decide | assumption) ?_
                refine wp_istore (pc := 48) dX11_proves_48 (by decide) ?_
                refine wp_iload_n (pc := 50) dX11_proves_50 (by first | rfl | assumption | (repeat first | assumption | rfl | refine aG_n ?_ rfl rfl)) ?_
                refine wp_iconst (pc := 51) (v := 1) dX11_proves_51 (by decide) ?_
                refine wp_ishr (pc := 52) dX11_proves_52 ?_
                refine wp_iload (pc := 53) dX11_proves_53 (by first | rfl | assumption | (repeat first | assumption | rfl | refine aG_n ?_ rfl rfl)) ?_
                refine wp_iload (pc := 55) dX11_proves_55 (by first | rfl | assumption | (repeat first | assumption | rfl | refine aG_n ?_ rfl rfl)) ?_
                refine wp_cS (pc := 57) dX11_proves_57 lk_11_358 rfl rfl rfl ?_
                refine wp_iload_n (pc := 0) dX5_climb_0 (by first | rfl | assumption | (repeat first | assumption | rfl | refine aG_n ?_ rfl rfl)) ?_
                refine wp_iconst (pc := 1) (v := 1) dX5_climb_1 (by decide) ?_
                refine wp_iand (pc := 2) dX5_climb_2 ?_
                refine wp_if_ne (pc := 3) (tgt := 14) dX5_climb_3 rfl (fun _ => ?_) (fun q => absurd q (by decide))
                refine wp_iload_n (pc := 14) dX5_climb_14 (by first | rfl | assumption | (repeat first | assumption | rfl | refine aG_n ?_ rfl rfl)) ?_
                refine wp_iload_n (pc := 15) dX5_climb_15 (by first | rfl | assumption | (repeat first | assumption | rfl | refine aG_n ?_ rfl rfl)) ?_
                refine wp_cS (pc := 16) dX5_climb_16 lk_5_13 rfl rfl rfl (c_X5_sum (aK_i ?_))
                refine wp_iretK (pc := 19) dX5_climb_19 rfl (by first | rfl | decide | assumption) ?_
                refine wp_istore (pc := 60) dX11_proves_60 (by decide) ?_
                refine wp_iload_n (pc := 62) dX11_proves_62 (by first | rfl | assumption | (repeat first | assumption | rfl | refine aG_n ?_ rfl rfl)) ?_
                refine wp_iconst (pc := 63) (v := 2) dX11_proves_63 (by decide) ?_
                refine wp_ishr (pc := 64) dX11_proves_64 ?_
                refine wp_iload (pc := 65) dX11_proves_65 (by first | rfl | assumption | (repeat first | assumption | rfl | refine aG_n ?_ rfl rfl)) ?_
                refine wp_iload (pc := 67) dX11_proves_67 (by first | rfl | assumption | (repeat first | assumption | rfl | refine aG_n ?_ rfl rfl)) ?_
                refine wp_cS (pc := 69) dX11_proves_69 lk_11_358 rfl rfl rfl ?_
                refine wp_iload_n (pc := 0) dX5_climb_0 (by first | rfl | assumption | (repeat first | assumption | rfl | refine aG_n ?_ rfl rfl)) ?_
                refine wp_iconst (pc := 1) (v := 1) dX5_climb_1 (by decide) ?_
                refine wp_iand (pc := 2) dX5_climb_2 ?_
                refine wp_if_ne (pc := 3) (tgt := 14) dX5_climb_3 rfl (fun _ => ?_) (fun q => absurd q (by decide))
                refine wp_iload_n (pc := 14) dX5_climb_14 (by first | rfl | assumption | (repeat first | assumption | rfl | refine aG_n ?_ rfl rfl)) ?_
                refine wp_iload_n (pc := 15) dX5_climb_15 (by first | rfl | assumption | (repeat first | assumption | rfl | refine aG_n ?_ rfl rfl)) ?_
                refine wp_cS (pc := 16) dX5_climb_16 lk_5_13 rfl rfl rfl (c_X5_sum (aK_i ?_))
                refine wp_iretK (pc := 19) dX5_climb_19 rfl (by first | rfl | decide | assumption) ?_
                refine wp_istore (pc := 72) dX11_proves_72 (by decide) ?_
                refine wp_iload (pc := 74) dX11_proves_74 (by first | rfl | assumption | (repeat first | assumption | rfl | refine aG_n ?_ rfl rfl)) ?_
                refine wp_aload_n (pc := 76) dX11_proves_76 (by first | rfl | assumption | (repeat first | assumption | rfl | refine aG_n ?_ rfl rfl)) ?_
                refine wp_getR (pc := 77) dX11_proves_77 fl_11_60 (by first | rfl | assumption | exact sh_house (by omega) | exact sh_wish (by omega) | exact sh_wor (by omega) | exact sh_bar (by omega) | exact sh_term (by omega) | exact sh_sheet (by omega) | exact sh_items (by omega) | exact sh_sums (by omega)) rfl ?_
                refine wp_getR (pc := 80) dX11_proves_80 fl_11_349 (by first | rfl | assumption | exact sh_house (by omega) | exact sh_wish (by omega) | exact sh_wor (by omega) | exact sh_bar (by omega) | exact sh_term (by omega) | exact sh_sheet (by omega) | exact sh_items (by omega) | exact sh_sums (by omega)) rfl ?_
                refine wp_iconst (pc := 83) (v := 1) dX11_proves_83 (by decide) ?_
                refine wp_ialdC (pc := 84) (j := 1) dX11_proves_84 (by first | rfl | assumption | exact sh_house (by omega) | exact sh_wish (by omega) | exact sh_wor (by omega) | exact sh_bar (by omega) | exact sh_term (by omega) | exact sh_sheet (by omega) | exact sh_items (by omega) | exact sh_sums (by omega)) (by decide) (by decide) ?_
                refine wp_icmp_ne (pc := 85) (tgt := 92) dX11_proves_85 rfl (fun _ => ?_) (fun q => absurd q c5)
                refine wp_iconst (pc := 92) (v := 0) dX11_proves_92 (by decide) ?_
                refine wp_cS (pc := 93) dX11_proves_93 lk_11_148 rfl rfl rfl ?_
                refine wp_iload_n (pc := 0) dX11_oneIf_0 (by first | rfl | assumption | (repeat first | assumption | rfl | refine aG_n ?_ rfl rfl)) ?_
                refine wp_if_eq (pc := 1) (tgt := 8) dX11_oneIf_1 rfl (fun _ => ?_) (fun q => absurd q (by decide))
                refine wp_iconst (pc := 8) (v := 0) dX11_oneIf_8 (by decide) ?_
                refine wp_iretK (pc := 9) dX11_oneIf_9 rfl (by first | rfl | decide | assumption) ?_
                refine wp_ireturn (pc := 96) dX11_proves_96 rfl (by first | rfl | decide | assumption) ?_
                refine k _ _ (fun Q' k' => ?_)
                refine wp_iload_n (pc := 0) dX12_proves_0 (by first | rfl | assumption | (repeat first | assumption | rfl | refine aG_n ?_ rfl rfl)) ?_
                refine wp_i2l (pc := 1) dX12_proves_1 ?_
                refine wp_lconst (pc := 2) (v := 0) dX12_proves_2 (by decide) ?_
                refine wp_ldc2 (pc := 3) dX12_proves_3 cl_12_347 ?_
                refine wp_cS (pc := 6) dX12_proves_6 lk_12_133 rfl rfl rfl (c_X12_in (fun _ => aK_i ?_) (fun q => absurd (by rw [w_int]; exact c0) q))
                refine wp_if_eq (pc := 9) (tgt := 42) dX12_proves_9 rfl (fun q => absurd q (by decide)) (fun _ => ?_)
                refine wp_iload_n (pc := 12) dX12_proves_12 (by first | rfl | assumption | (repeat first | assumption | rfl | refine aG_n ?_ rfl rfl)) ?_
                refine wp_cS (pc := 13) dX12_proves_13 lk_12_354 rfl rfl rfl (c_X12_isSum (fun _ => aK_i ?_) (fun q => absurd c1 q))
                refine wp_if_eq (pc := 16) (tgt := 42) dX12_proves_16 rfl (fun q => absurd q (by decide)) (fun _ => ?_)
                refine wp_iload_n (pc := 19) dX12_proves_19 (by first | rfl | assumption | (repeat first | assumption | rfl | refine aG_n ?_ rfl rfl)) ?_
                refine wp_cS (pc := 20) dX12_proves_20 lk_12_354 rfl rfl rfl (c_X12_isSum (fun _ => aK_i ?_) (fun q => absurd c2 q))
                refine wp_if_eq (pc := 23) (tgt := 42) dX12_proves_23 rfl (fun q => absurd q (by decide)) (fun _ => ?_)
                refine wp_iload (pc := 26) dX12_proves_26 (by first | rfl | assumption | (repeat first | assumption | rfl | refine aG_n ?_ rfl rfl)) ?_
                refine wp_cS (pc := 28) dX12_proves_28 lk_12_354 rfl rfl rfl (c_X12_isSum (fun _ => aK_i ?_) (fun q => absurd c3 q))
                refine wp_if_eq (pc := 31) (tgt := 42) dX12_proves_31 rfl (fun q => absurd q (by decide)) (fun _ => ?_)
                refine wp_iload (pc := 34) dX12_proves_34 (by first | rfl | assumption | (repeat first | assumption | rfl | refine aG_n ?_ rfl rfl)) ?_
                refine wp_cS (pc := 36) dX12_proves_36 lk_12_354 rfl rfl rfl (c_X12_isSum (fun _ => aK_i ?_) (fun q => absurd c4 q))
                refine wp_if_ne (pc := 39) (tgt := 44) dX12_proves_39 rfl (fun _ => ?_) (fun q => absurd q (by decide))
                refine wp_iload_n (pc := 44) dX12_proves_44 (by first | rfl | assumption | (repeat first | assumption | rfl | refine aG_n ?_ rfl rfl)) ?_
                refine wp_iload_n (pc := 45) dX12_proves_45 (by first | rfl | assumption | (repeat first | assumption | rfl | refine aG_n ?_ rfl rfl)) ?_
                refine wp_iload_n (pc := 46) dX12_proves_46 (by first | rfl | assumption | (repeat first | assumption | rfl | refine aG_n ?_ rfl rfl)) ?_
                refine wp_cS (pc := 47) dX12_proves_47 lk_12_357 rfl rfl rfl ?_
                refine wp_iload_n (pc := 0) dX12_sumBeside_0 (by first | rfl | assumption | (repeat first | assumption | rfl | refine aG_n ?_ rfl rfl)) ?_
                refine wp_iconst (pc := 1) (v := 2) dX12_sumBeside_1 (by decide) ?_
                refine wp_irem (pc := 2) dX12_sumBeside_2 (by decide) ?_
                refine wp_if_ne (pc := 3) (tgt := 14) dX12_sumBeside_3 rfl (fun q => absurd q (by decide)) (fun _ => ?_)
                refine wp_iload_n (pc := 6) dX12_sumBeside_6 (by first | rfl | assumption | (repeat first | assumption | rfl | refine aG_n ?_ rfl rfl)) ?_
                refine wp_iload_n (pc := 7) dX12_sumBeside_7 (by first | rfl | assumption | (repeat first | assumption | rfl | refine aG_n ?_ rfl rfl)) ?_
                refine wp_cS (pc := 8) dX12_sumBeside_8 lk_12_344 rfl rfl rfl (c_X12_sumOf (aK_i ?_))
                refine wp_goto (pc := 11) (tgt := 19) dX12_sumBeside_11 rfl ?_
                refine wp_iretK (pc := 19) dX12_sumBeside_19 rfl (by first | rfl | decide | assumption) ?_
                refine wp_istore (pc := 50) dX12_proves_50 (by decide) ?_
                refine wp_iload_n (pc := 52) dX12_proves_52 (by first | rfl | assumption | (repeat first | assumption | rfl | refine aG_n ?_ rfl rfl)) ?_
                refine wp_iconst (pc := 53) (v := 2) dX12_proves_53 (by decide) ?_
                refine wp_idiv (pc := 54) dX12_proves_54 (by decide) ?_
                refine wp_iload (pc := 55) dX12_proves_55 (by first | rfl | assumption | (repeat first | assumption | rfl | refine aG_n ?_ rfl rfl)) ?_
                refine wp_iload (pc := 57) dX12_proves_57 (by first | rfl | assumption | (repeat first | assumption | rfl | refine aG_n ?_ rfl rfl)) ?_
                refine wp_cS (pc := 59) dX12_proves_59 lk_12_357 rfl rfl rfl ?_
                refine wp_iload_n (pc := 0) dX12_sumBeside_0 (by first | rfl | assumption | (repeat first | assumption | rfl | refine aG_n ?_ rfl rfl)) ?_
                refine wp_iconst (pc := 1) (v := 2) dX12_sumBeside_1 (by decide) ?_
                refine wp_irem (pc := 2) dX12_sumBeside_2 (by decide) ?_
                refine wp_if_ne (pc := 3) (tgt := 14) dX12_sumBeside_3 rfl (fun _ => ?_) (fun q => absurd q (by decide))
                refine wp_iload_n (pc := 14) dX12_sumBeside_14 (by first | rfl | assumption | (repeat first | assumption | rfl | refine aG_n ?_ rfl rfl)) ?_
                refine wp_iload_n (pc := 15) dX12_sumBeside_15 (by first | rfl | assumption | (repeat first | assumption | rfl | refine aG_n ?_ rfl rfl)) ?_
                refine wp_cS (pc := 16) dX12_sumBeside_16 lk_12_344 rfl rfl rfl (c_X12_sumOf (aK_i ?_))
                refine wp_iretK (pc := 19) dX12_sumBeside_19 rfl (by first | rfl | decide | assumption) ?_
                refine wp_istore (pc := 62) dX12_proves_62 (by decide) ?_
                refine wp_iload_n (pc := 64) dX12_proves_64 (by first | rfl | assumption | (repeat first | assumption | rfl | refine aG_n ?_ rfl rfl)) ?_
                refine wp_iconst (pc := 65) (v := 4) dX12_proves_65 (by decide) ?_
                refine wp_idiv (pc := 66) dX12_proves_66 (by decide) ?_
                refine wp_iload (pc := 67) dX12_proves_67 (by first | rfl | assumption | (repeat first | assumption | rfl | refine aG_n ?_ rfl rfl)) ?_
                refine wp_iload (pc := 69) dX12_proves_69 (by first | rfl | assumption | (repeat first | assumption | rfl | refine aG_n ?_ rfl rfl)) ?_
                refine wp_cS (pc := 71) dX12_proves_71 lk_12_357 rfl rfl rfl ?_
                refine wp_iload_n (pc := 0) dX12_sumBeside_0 (by first | rfl | assumption | (repeat first | assumption | rfl | refine aG_n ?_ rfl rfl)) ?_
                refine wp_iconst (pc := 1) (v := 2) dX12_sumBeside_1 (by decide) ?_
                refine wp_irem (pc := 2) dX12_sumBeside_2 (by decide) ?_
                refine wp_if_ne (pc := 3) (tgt := 14) dX12_sumBeside_3 rfl (fun _ => ?_) (fun q => absurd q (by decide))
                refine wp_iload_n (pc := 14) dX12_sumBeside_14 (by first | rfl | assumption | (repeat first | assumption | rfl | refine aG_n ?_ rfl rfl)) ?_
                refine wp_iload_n (pc := 15) dX12_sumBeside_15 (by first | rfl | assumption | (repeat first | assumption | rfl | refine aG_n ?_ rfl rfl)) ?_
                refine wp_cS (pc := 16) dX12_sumBeside_16 lk_12_344 rfl rfl rfl (c_X12_sumOf (aK_i ?_))
                refine wp_iretK (pc := 19) dX12_sumBeside_19 rfl (by first | rfl | decide | assumption) ?_
                refine wp_aload_n (pc := 74) dX12_proves_74 (by first | rfl | assumption | (repeat first | assumption | rfl | refine aG_n ?_ rfl rfl)) ?_
                refine wp_iconst (pc := 75) (v := 0) dX12_proves_75 (by decide) ?_
                refine wp_bipush (pc := 76) (v := 8) dX12_proves_76 (by decide) ?_
                refine wp_cV (pc := 78) dX12_proves_78 lk_12_349 rfl (by decide) rfl (by first | rfl | assumption | exact sh_house (by omega) | exact sh_wish (by omega) | exact sh_wor (by omega) | exact sh_bar (by omega) | exact sh_term (by omega) | exact sh_sheet (by omega) | exact sh_items (by omega) | exact sh_sums (by omega)) rfl rfl ?_
                refine wp_aload_n (pc := 0) dX12_sumFrom_0 (by first | rfl | assumption | (repeat first | assumption | rfl | refine aG_n ?_ rfl rfl)) ?_
                refine wp_getR (pc := 1) dX12_sumFrom_1 fl_12_119 (by first | rfl | assumption | exact sh_house (by omega) | exact sh_wish (by omega) | exact sh_wor (by omega) | exact sh_bar (by omega) | exact sh_term (by omega) | exact sh_sheet (by omega) | exact sh_items (by omega) | exact sh_sums (by omega)) rfl ?_
                refine wp_iload_n (pc := 4) dX12_sumFrom_4 (by first | rfl | assumption | (repeat first | assumption | rfl | refine aG_n ?_ rfl rfl)) ?_
                refine wp_ialdC (pc := 5) (j := 0) dX12_sumFrom_5 (by first | rfl | assumption | exact sh_house (by omega) | exact sh_wish (by omega) | exact sh_wor (by omega) | exact sh_bar (by omega) | exact sh_term (by omega) | exact sh_sheet (by omega) | exact sh_items (by omega) | exact sh_sums (by omega)) (by decide) (by decide) ?_
                refine wp_aload_n (pc := 6) dX12_sumFrom_6 (by first | rfl | assumption | (repeat first | assumption | rfl | refine aG_n ?_ rfl rfl)) ?_
                refine wp_getR (pc := 7) dX12_sumFrom_7 fl_12_119 (by first | rfl | assumption | exact sh_house (by omega) | exact sh_wish (by omega) | exact sh_wor (by omega) | exact sh_bar (by omega) | exact sh_term (by omega) | exact sh_sheet (by omega) | exact sh_items (by omega) | exact sh_sums (by omega)) rfl ?_
                refine wp_iload_n (pc := 10) dX12_sumFrom_10 (by first | rfl | assumption | (repeat first | assumption | rfl | refine aG_n ?_ rfl rfl)) ?_
                refine wp_iconst (pc := 11) (v := 1) dX12_sumFrom_11 (by decide) ?_
                refine wp_iadd (pc := 12) dX12_sumFrom_12 ?_
                refine wp_bipush (pc := 13) (v := 8) dX12_sumFrom_13 (by decide) ?_
                refine wp_irem (pc := 15) dX12_sumFrom_15 (by decide) ?_
                refine wp_ialdC (pc := 16) (j := 1) dX12_sumFrom_16 (by first | rfl | assumption | exact sh_house (by omega) | exact sh_wish (by omega) | exact sh_wor (by omega) | exact sh_bar (by omega) | exact sh_term (by omega) | exact sh_sheet (by omega) | exact sh_items (by omega) | exact sh_sums (by omega)) (by decide) (by decide) ?_
                refine wp_cS (pc := 17) dX12_sumFrom_17 lk_12_344 rfl rfl rfl (c_X12_sumOf (aK_i ?_))
                refine wp_istore_n (pc := 20) dX12_sumFrom_20 (by decide) ?_
                refine wp_iload_n (pc := 21) dX12_sumFrom_21 (by first | rfl | assumption | (repeat first | assumption | rfl | refine aG_n ?_ rfl rfl)) ?_
                refine wp_iconst (pc := 22) (v := 4) dX12_sumFrom_22 (by decide) ?_
                refine wp_icmp_ge (pc := 23) (tgt := 42) dX12_sumFrom_23 rfl (fun _ => ?_) (fun q => absurd q (by decide))
                refine wp_iload_n (pc := 42) dX12_sumFrom_42 (by first | rfl | assumption | (repeat first | assumption | rfl | refine aG_n ?_ rfl rfl)) ?_
                refine wp_aload_n (pc := 43) dX12_sumFrom_43 (by first | rfl | assumption | (repeat first | assumption | rfl | refine aG_n ?_ rfl rfl)) ?_
                refine wp_getR (pc := 44) dX12_sumFrom_44 fl_12_119 (by first | rfl | assumption | exact sh_house (by omega) | exact sh_wish (by omega) | exact sh_wor (by omega) | exact sh_bar (by omega) | exact sh_term (by omega) | exact sh_sheet (by omega) | exact sh_items (by omega) | exact sh_sums (by omega)) rfl ?_
                refine wp_iload_n (pc := 47) dX12_sumFrom_47 (by first | rfl | assumption | (repeat first | assumption | rfl | refine aG_n ?_ rfl rfl)) ?_
                refine wp_iconst (pc := 48) (v := 2) dX12_sumFrom_48 (by decide) ?_
                refine wp_iadd (pc := 49) dX12_sumFrom_49 ?_
                refine wp_ialdC (pc := 50) (j := 2) dX12_sumFrom_50 (by first | rfl | assumption | exact sh_house (by omega) | exact sh_wish (by omega) | exact sh_wor (by omega) | exact sh_bar (by omega) | exact sh_term (by omega) | exact sh_sheet (by omega) | exact sh_items (by omega) | exact sh_sums (by omega)) (by decide) (by decide) ?_
                refine wp_aload_n (pc := 51) dX12_sumFrom_51 (by first | rfl | assumption | (repeat first | assumption | rfl | refine aG_n ?_ rfl rfl)) ?_
                refine wp_getR (pc := 52) dX12_sumFrom_52 fl_12_119 (by first | rfl | assumption | exact sh_house (by omega) | exact sh_wish (by omega) | exact sh_wor (by omega) | exact sh_bar (by omega) | exact sh_term (by omega) | exact sh_sheet (by omega) | exact sh_items (by omega) | exact sh_sums (by omega)) rfl ?_
                refine wp_iload_n (pc := 55) dX12_sumFrom_55 (by first | rfl | assumption | (repeat first | assumption | rfl | refine aG_n ?_ rfl rfl)) ?_
                refine wp_iconst (pc := 56) (v := 3) dX12_sumFrom_56 (by decide) ?_
                refine wp_iadd (pc := 57) dX12_sumFrom_57 ?_
                refine wp_ialdC (pc := 58) (j := 3) dX12_sumFrom_58 (by first | rfl | assumption | exact sh_house (by omega) | exact sh_wish (by omega) | exact sh_wor (by omega) | exact sh_bar (by omega) | exact sh_term (by omega) | exact sh_sheet (by omega) | exact sh_items (by omega) | exact sh_sums (by omega)) (by decide) (by decide) ?_
                refine wp_cS (pc := 59) dX12_sumFrom_59 lk_12_344 rfl rfl rfl (c_X12_sumOf (aK_i ?_))
                refine wp_cS (pc := 62) dX12_sumFrom_62 lk_12_344 rfl rfl rfl (c_X12_sumOf (aK_i ?_))
                refine wp_istore (pc := 65) dX12_sumFrom_65 (by decide) ?_
                refine wp_iload_n (pc := 67) dX12_sumFrom_67 (by first | rfl | assumption | (repeat first | assumption | rfl | refine aG_n ?_ rfl rfl)) ?_
                refine wp_iconst (pc := 68) (v := 4) dX12_sumFrom_68 (by decide) ?_
                refine wp_icmp_ne (pc := 69) (tgt := 75) dX12_sumFrom_69 rfl (fun _ => ?_) (fun q => absurd q (by decide))
                refine wp_iload (pc := 75) dX12_sumFrom_75 (by first | rfl | assumption | (repeat first | assumption | rfl | refine aG_n ?_ rfl rfl)) ?_
                refine wp_aload_n (pc := 77) dX12_sumFrom_77 (by first | rfl | assumption | (repeat first | assumption | rfl | refine aG_n ?_ rfl rfl)) ?_
                refine wp_getR (pc := 78) dX12_sumFrom_78 fl_12_119 (by first | rfl | assumption | exact sh_house (by omega) | exact sh_wish (by omega) | exact sh_wor (by omega) | exact sh_bar (by omega) | exact sh_term (by omega) | exact sh_sheet (by omega) | exact sh_items (by omega) | exact sh_sums (by omega)) rfl ?_
                refine wp_iconst (pc := 81) (v := 4) dX12_sumFrom_81 (by decide) ?_
                refine wp_ialdC (pc := 82) (j := 4) dX12_sumFrom_82 (by first | rfl | assumption | exact sh_house (by omega) | exact sh_wish (by omega) | exact sh_wor (by omega) | exact sh_bar (by omega) | exact sh_term (by omega) | exact sh_sheet (by omega) | exact sh_items (by omega) | exact sh_sums (by omega)) (by decide) (by decide) ?_
                refine wp_aload_n (pc := 83) dX12_sumFrom_83 (by first | rfl | assumption | (repeat first | assumption | rfl | refine aG_n ?_ rfl rfl)) ?_
                refine wp_getR (pc := 84) dX12_sumFrom_84 fl_12_119 (by first | rfl | assumption | exact sh_house (by omega) | exact sh_wish (by omega) | exact sh_wor (by omega) | exact sh_bar (by omega) | exact sh_term (by omega) | exact sh_sheet (by omega) | exact sh_items (by omega) | exact sh_sums (by omega)) rfl ?_
                refine wp_iconst (pc := 87) (v := 5) dX12_sumFrom_87 (by decide) ?_
                refine wp_ialdC (pc := 88) (j := 5) dX12_sumFrom_88 (by first | rfl | assumption | exact sh_house (by omega) | exact sh_wish (by omega) | exact sh_wor (by omega) | exact sh_bar (by omega) | exact sh_term (by omega) | exact sh_sheet (by omega) | exact sh_items (by omega) | exact sh_sums (by omega)) (by decide) (by decide) ?_
                refine wp_cS (pc := 89) dX12_sumFrom_89 lk_12_344 rfl rfl rfl (c_X12_sumOf (aK_i ?_))
                refine wp_aload_n (pc := 92) dX12_sumFrom_92 (by first | rfl | assumption | (repeat first | assumption | rfl | refine aG_n ?_ rfl rfl)) ?_
                refine wp_getR (pc := 93) dX12_sumFrom_93 fl_12_119 (by first | rfl | assumption | exact sh_house (by omega) | exact sh_wish (by omega) | exact sh_wor (by omega) | exact sh_bar (by omega) | exact sh_term (by omega) | exact sh_sheet (by omega) | exact sh_items (by omega) | exact sh_sums (by omega)) rfl ?_
                refine wp_bipush (pc := 96) (v := 6) dX12_sumFrom_96 (by decide) ?_
                refine wp_ialdC (pc := 98) (j := 6) dX12_sumFrom_98 (by first | rfl | assumption | exact sh_house (by omega) | exact sh_wish (by omega) | exact sh_wor (by omega) | exact sh_bar (by omega) | exact sh_term (by omega) | exact sh_sheet (by omega) | exact sh_items (by omega) | exact sh_sums (by omega)) (by decide) (by decide) ?_
                refine wp_aload_n (pc := 99) dX12_sumFrom_99 (by first | rfl | assumption | (repeat first | assumption | rfl | refine aG_n ?_ rfl rfl)) ?_
                refine wp_getR (pc := 100) dX12_sumFrom_100 fl_12_119 (by first | rfl | assumption | exact sh_house (by omega) | exact sh_wish (by omega) | exact sh_wor (by omega) | exact sh_bar (by omega) | exact sh_term (by omega) | exact sh_sheet (by omega) | exact sh_items (by omega) | exact sh_sums (by omega)) rfl ?_
                refine wp_bipush (pc := 103) (v := 7) dX12_sumFrom_103 (by decide) ?_
                refine wp_ialdC (pc := 105) (j := 7) dX12_sumFrom_105 (by first | rfl | assumption | exact sh_house (by omega) | exact sh_wish (by omega) | exact sh_wor (by omega) | exact sh_bar (by omega) | exact sh_term (by omega) | exact sh_sheet (by omega) | exact sh_items (by omega) | exact sh_sums (by omega)) (by decide) (by decide) ?_
                refine wp_cS (pc := 106) dX12_sumFrom_106 lk_12_344 rfl rfl rfl (c_X12_sumOf (aK_i ?_))
                refine wp_cS (pc := 109) dX12_sumFrom_109 lk_12_344 rfl rfl rfl (c_X12_sumOf (aK_i ?_))
                refine wp_cS (pc := 112) dX12_sumFrom_112 lk_12_344 rfl rfl rfl (c_X12_sumOf (aK_i ?_))
                refine wp_iretK (pc := 115) dX12_sumFrom_115 rfl (by first | rfl | decide | assumption) ?_
                refine wp_icmp_ne (pc := 81) (tgt := 88) dX12_proves_81 rfl (fun _ => ?_) (fun q => absurd q (by rw [root_eq hR]; exact c5))
                refine wp_iconst (pc := 88) (v := 0) dX12_proves_88 (by decide) ?_
                refine wp_ireturn (pc := 89) dX12_proves_89 rfl (by first | rfl | decide | assumption) ?_
                exact k' _ hI
            | 7, _ =>
              by_cases c5 : sm2 (z) (sm2 (y) (sm2 (x) (v))) = μ.1 53 1
              · skip
                refine wp_iload_n (pc := 0) dX11_proves_0 (by first | rfl | assumption | (repeat first | assumption | rfl | refine aG_n ?_ rfl rfl)) ?_
                refine wp_iconst (pc := 1) (v := 0) dX11_proves_1 (by decide) ?_
                refine wp_bipush (pc := 2) (v := 7) dX11_proves_2 (by decide) ?_
                refine wp_cS (pc := 4) dX11_proves_4 lk_11_112 rfl rfl rfl (c_X11_isWithin (fun _ => aK_i ?_) (fun q => absurd c0 q))
                refine wp_if_eq (pc := 7) (tgt := 40) dX11_proves_7 rfl (fun q => absurd q (by decide)) (fun _ => ?_)
                refine wp_iload_n (pc := 10) dX11_proves_10 (by first | rfl | assumption | (repeat first | assumption | rfl | refine aG_n ?_ rfl rfl)) ?_
                refine wp_cS (pc := 11) dX11_proves_11 lk_11_355 rfl rfl rfl (c_X11_isSum (fun _ => aK_i ?_) (fun q => absurd c1 q))
                refine wp_if_eq (pc := 14) (tgt := 40) dX11_proves_14 rfl (fun q => absurd q (by decide)) (fun _ => ?_)
                refine wp_iload_n (pc := 17) dX11_proves_17 (by first | rfl | assumption | (repeat first | assumption | rfl | refine aG_n ?_ rfl rfl)) ?_
                refine wp_cS (pc := 18) dX11_proves_18 lk_11_355 rfl rfl rfl (c_X11_isSum (fun _ => aK_i ?_) (fun q => absurd c2 q))
                refine wp_if_eq (pc := 21) (tgt := 40) dX11_proves_21 rfl (fun q => absurd q (by decide)) (fun _ => ?_)
                refine wp_iload (pc := 24) dX11_proves_24 (by first | rfl | assumption | (repeat first | assumption | rfl | refine aG_n ?_ rfl rfl)) ?_
                refine wp_cS (pc := 26) dX11_proves_26 lk_11_355 rfl rfl rfl (c_X11_isSum (fun _ => aK_i ?_) (fun q => absurd c3 q))
                refine wp_if_eq (pc := 29) (tgt := 40) dX11_proves_29 rfl (fun q => absurd q (by decide)) (fun _ => ?_)
                refine wp_iload (pc := 32) dX11_proves_32 (by first | rfl | assumption | (repeat first | assumption | rfl | refine aG_n ?_ rfl rfl)) ?_
                refine wp_cS (pc := 34) dX11_proves_34 lk_11_355 rfl rfl rfl (c_X11_isSum (fun _ => aK_i ?_) (fun q => absurd c4 q))
                refine wp_if_ne (pc := 37) (tgt := 42) dX11_proves_37 rfl (fun _ => ?_) (fun q => absurd q (by decide))
                refine wp_iload_n (pc := 42) dX11_proves_42 (by first | rfl | assumption | (repeat first | assumption | rfl | refine aG_n ?_ rfl rfl)) ?_
                refine wp_iload_n (pc := 43) dX11_proves_43 (by first | rfl | assumption | (repeat first | assumption | rfl | refine aG_n ?_ rfl rfl)) ?_
                refine wp_iload_n (pc := 44) dX11_proves_44 (by first | rfl | assumption | (repeat first | assumption | rfl | refine aG_n ?_ rfl rfl)) ?_
                refine wp_cS (pc := 45) dX11_proves_45 lk_11_358 rfl rfl rfl ?_
                refine wp_iload_n (pc := 0) dX5_climb_0 (by first | rfl | assumption | (repeat first | assumption | rfl | refine aG_n ?_ rfl rfl)) ?_
                refine wp_iconst (pc := 1) (v := 1) dX5_climb_1 (by decide) ?_
                refine wp_iand (pc := 2) dX5_climb_2 ?_
                refine wp_if_ne (pc := 3) (tgt := 14) dX5_climb_3 rfl (fun _ => ?_) (fun q => absurd q (by decide))
                refine wp_iload_n (pc := 14) dX5_climb_14 (by first | rfl | assumption | (repeat first | assumption | rfl | refine aG_n ?_ rfl rfl)) ?_
                refine wp_iload_n (pc := 15) dX5_climb_15 (by first | rfl | assumption | (repeat first | assumption | rfl | refine aG_n ?_ rfl rfl)) ?_
                refine wp_cS (pc := 16) dX5_climb_16 lk_5_13 rfl rfl rfl (c_X5_sum (aK_i ?_))
                refine wp_iretK (pc := 19) dX5_climb_19 rfl (by first | rfl | decide | assumption) ?_
                refine wp_istore (pc := 48) dX11_proves_48 (by decide) ?_
                refine wp_iload_n (pc := 50) dX11_proves_50 (by first | rfl | assumption | (repeat first | assumption | rfl | refine aG_n ?_ rfl rfl)) ?_
                refine wp_iconst (pc := 51) (v := 1) dX11_proves_51 (by decide) ?_
                refine wp_ishr (pc := 52) dX11_proves_52 ?_
                refine wp_iload (pc := 53) dX11_proves_53 (by first | rfl | assumption | (repeat first | assumption | rfl | refine aG_n ?_ rfl rfl)) ?_
                refine wp_iload (pc := 55) dX11_proves_55 (by first | rfl | assumption | (repeat first | assumption | rfl | refine aG_n ?_ rfl rfl)) ?_
                refine wp_cS (pc := 57) dX11_proves_57 lk_11_358 rfl rfl rfl ?_
                refine wp_iload_n (pc := 0) dX5_climb_0 (by first | rfl | assumption | (repeat first | assumption | rfl | refine aG_n ?_ rfl rfl)) ?_
                refine wp_iconst (pc := 1) (v := 1) dX5_climb_1 (by decide) ?_
                refine wp_iand (pc := 2) dX5_climb_2 ?_
                refine wp_if_ne (pc := 3) (tgt := 14) dX5_climb_3 rfl (fun _ => ?_) (fun q => absurd q (by decide))
                refine wp_iload_n (pc := 14) dX5_climb_14 (by first | rfl | assumption | (repeat first | assumption | rfl | refine aG_n ?_ rfl rfl)) ?_
                refine wp_iload_n (pc := 15) dX5_climb_15 (by first | rfl | assumption | (repeat first | assumption | rfl | refine aG_n ?_ rfl rfl)) ?_
                refine wp_cS (pc := 16) dX5_climb_16 lk_5_13 rfl rfl rfl (c_X5_sum (aK_i ?_))
                refine wp_iretK (pc := 19) dX5_climb_19 rfl (by first | rfl | decide | assumption) ?_
                refine wp_istore (pc := 60) dX11_proves_60 (by decide) ?_
                refine wp_iload_n (pc := 62) dX11_proves_62 (by first | rfl | assumption | (repeat first | assumption | rfl | refine aG_n ?_ rfl rfl)) ?_
                refine wp_iconst (pc := 63) (v := 2) dX11_proves_63 (by decide) ?_
                refine wp_ishr (pc := 64) dX11_proves_64 ?_
                refine wp_iload (pc := 65) dX11_proves_65 (by first | rfl | assumption | (repeat first | assumption | rfl | refine aG_n ?_ rfl rfl)) ?_
                refine wp_iload (pc := 67) dX11_proves_67 (by first | rfl | assumption | (repeat first | assumption | rfl | refine aG_n ?_ rfl rfl)) ?_
                refine wp_cS (pc := 69) dX11_proves_69 lk_11_358 rfl rfl rfl ?_
                refine wp_iload_n (pc := 0) dX5_climb_0 (by first | rfl | assumption | (repeat first | assumption | rfl | refine aG_n ?_ rfl rfl)) ?_
                refine wp_iconst (pc := 1) (v := 1) dX5_climb_1 (by decide) ?_
                refine wp_iand (pc := 2) dX5_climb_2 ?_
                refine wp_if_ne (pc := 3) (tgt := 14) dX5_climb_3 rfl (fun _ => ?_) (fun q => absurd q (by decide))
                refine wp_iload_n (pc := 14) dX5_climb_14 (by first | rfl | assumption | (repeat first | assumption | rfl | refine aG_n ?_ rfl rfl)) ?_
                refine wp_iload_n (pc := 15) dX5_climb_15 (by first | rfl | assumption | (repeat first | assumption | rfl | refine aG_n ?_ rfl rfl)) ?_
                refine wp_cS (pc := 16) dX5_climb_16 lk_5_13 rfl rfl rfl (c_X5_sum (aK_i ?_))
                refine wp_iretK (pc := 19) dX5_climb_19 rfl (by first | rfl | decide | assumption) ?_
                refine wp_istore (pc := 72) dX11_proves_72 (by decide) ?_
                refine wp_iload (pc := 74) dX11_proves_74 (by first | rfl | assumption | (repeat first | assumption | rfl | refine aG_n ?_ rfl rfl)) ?_
                refine wp_aload_n (pc := 76) dX11_proves_76 (by first | rfl | assumption | (repeat first | assumption | rfl | refine aG_n ?_ rfl rfl)) ?_
                refine wp_getR (pc := 77) dX11_proves_77 fl_11_60 (by first | rfl | assumption | exact sh_house (by omega) | exact sh_wish (by omega) | exact sh_wor (by omega) | exact sh_bar (by omega) | exact sh_term (by omega) | exact sh_sheet (by omega) | exact sh_items (by omega) | exact sh_sums (by omega)) rfl ?_
                refine wp_getR (pc := 80) dX11_proves_80 fl_11_349 (by first | rfl | assumption | exact sh_house (by omega) | exact sh_wish (by omega) | exact sh_wor (by omega) | exact sh_bar (by omega) | exact sh_term (by omega) | exact sh_sheet (by omega) | exact sh_items (by omega) | exact sh_sums (by omega)) rfl ?_
                refine wp_iconst (pc := 83) (v := 1) dX11_proves_83 (by decide) ?_
                refine wp_ialdC (pc := 84) (j := 1) dX11_proves_84 (by first | rfl | assumption | exact sh_house (by omega) | exact sh_wish (by omega) | exact sh_wor (by omega) | exact sh_bar (by omega) | exact sh_term (by omega) | exact sh_sheet (by omega) | exact sh_items (by omega) | exact sh_sums (by omega)) (by decide) (by decide) ?_
                refine wp_icmp_ne (pc := 85) (tgt := 92) dX11_proves_85 rfl (fun q => absurd c5 q) (fun _ => ?_)
                refine wp_iconst (pc := 88) (v := 1) dX11_proves_88 (by decide) ?_
                refine wp_goto (pc := 89) (tgt := 93) dX11_proves_89 rfl ?_
                refine wp_cS (pc := 93) dX11_proves_93 lk_11_148 rfl rfl rfl ?_
                refine wp_iload_n (pc := 0) dX11_oneIf_0 (by first | rfl | assumption | (repeat first | assumption | rfl | refine aG_n ?_ rfl rfl)) ?_
                refine wp_if_eq (pc := 1) (tgt := 8) dX11_oneIf_1 rfl (fun q => absurd q (by decide)) (fun _ => ?_)
                refine wp_iconst (pc := 4) (v := 1) dX11_oneIf_4 (by decide) ?_
                refine wp_goto (pc := 5) (tgt := 9) dX11_oneIf_5 rfl ?_
                refine wp_iretK (pc := 9) dX11_oneIf_9 rfl (by first | rfl | decide | assumption) ?_
                refine wp_ireturn (pc := 96) dX11_proves_96 rfl (by first | rfl | decide | assumption) ?_
                refine k _ _ (fun Q' k' => ?_)
                refine wp_iload_n (pc := 0) dX12_proves_0 (by first | rfl | assumption | (repeat first | assumption | rfl | refine aG_n ?_ rfl rfl)) ?_
                refine wp_i2l (pc := 1) dX12_proves_1 ?_
                refine wp_lconst (pc := 2) (v := 0) dX12_proves_2 (by decide) ?_
                refine wp_ldc2 (pc := 3) dX12_proves_3 cl_12_347 ?_
                refine wp_cS (pc := 6) dX12_proves_6 lk_12_133 rfl rfl rfl (c_X12_in (fun _ => aK_i ?_) (fun q => absurd (by rw [w_int]; exact c0) q))
                refine wp_if_eq (pc := 9) (tgt := 42) dX12_proves_9 rfl (fun q => absurd q (by decide)) (fun _ => ?_)
                refine wp_iload_n (pc := 12) dX12_proves_12 (by first | rfl | assumption | (repeat first | assumption | rfl | refine aG_n ?_ rfl rfl)) ?_
                refine wp_cS (pc := 13) dX12_proves_13 lk_12_354 rfl rfl rfl (c_X12_isSum (fun _ => aK_i ?_) (fun q => absurd c1 q))
                refine wp_if_eq (pc := 16) (tgt := 42) dX12_proves_16 rfl (fun q => absurd q (by decide)) (fun _ => ?_)
                refine wp_iload_n (pc := 19) dX12_proves_19 (by first | rfl | assumption | (repeat first | assumption | rfl | refine aG_n ?_ rfl rfl)) ?_
                refine wp_cS (pc := 20) dX12_proves_20 lk_12_354 rfl rfl rfl (c_X12_isSum (fun _ => aK_i ?_) (fun q => absurd c2 q))
                refine wp_if_eq (pc := 23) (tgt := 42) dX12_proves_23 rfl (fun q => absurd q (by decide)) (fun _ => ?_)
                refine wp_iload (pc := 26) dX12_proves_26 (by first | rfl | assumption | (repeat first | assumption | rfl | refine aG_n ?_ rfl rfl)) ?_
                refine wp_cS (pc := 28) dX12_proves_28 lk_12_354 rfl rfl rfl (c_X12_isSum (fun _ => aK_i ?_) (fun q => absurd c3 q))
                refine wp_if_eq (pc := 31) (tgt := 42) dX12_proves_31 rfl (fun q => absurd q (by decide)) (fun _ => ?_)
                refine wp_iload (pc := 34) dX12_proves_34 (by first | rfl | assumption | (repeat first | assumption | rfl | refine aG_n ?_ rfl rfl)) ?_
                refine wp_cS (pc := 36) dX12_proves_36 lk_12_354 rfl rfl rfl (c_X12_isSum (fun _ => aK_i ?_) (fun q => absurd c4 q))
                refine wp_if_ne (pc := 39) (tgt := 44) dX12_proves_39 rfl (fun _ => ?_) (fun q => absurd q (by decide))
                refine wp_iload_n (pc := 44) dX12_proves_44 (by first | rfl | assumption | (repeat first | assumption | rfl | refine aG_n ?_ rfl rfl)) ?_
                refine wp_iload_n (pc := 45) dX12_proves_45 (by first | rfl | assumption | (repeat first | assumption | rfl | refine aG_n ?_ rfl rfl)) ?_
                refine wp_iload_n (pc := 46) dX12_proves_46 (by first | rfl | assumption | (repeat first | assumption | rfl | refine aG_n ?_ rfl rfl)) ?_
                refine wp_cS (pc := 47) dX12_proves_47 lk_12_357 rfl rfl rfl ?_
                refine wp_iload_n (pc := 0) dX12_sumBeside_0 (by first | rfl | assumption | (repeat first | assumption | rfl | refine aG_n ?_ rfl rfl)) ?_
                refine wp_iconst (pc := 1) (v := 2) dX12_sumBeside_1 (by decide) ?_
                refine wp_irem (pc := 2) dX12_sumBeside_2 (by decide) ?_
                refine wp_if_ne (pc := 3) (tgt := 14) dX12_sumBeside_3 rfl (fun _ => ?_) (fun q => absurd q (by decide))
                refine wp_iload_n (pc := 14) dX12_sumBeside_14 (by first | rfl | assumption | (repeat first | assumption | rfl | refine aG_n ?_ rfl rfl)) ?_
                refine wp_iload_n (pc := 15) dX12_sumBeside_15 (by first | rfl | assumption | (repeat first | assumption | rfl | refine aG_n ?_ rfl rfl)) ?_
                refine wp_cS (pc := 16) dX12_sumBeside_16 lk_12_344 rfl rfl rfl (c_X12_sumOf (aK_i ?_))
                refine wp_iretK (pc := 19) dX12_sumBeside_19 rfl (by first | rfl | decide | assumption) ?_
                refine wp_istore (pc := 50) dX12_proves_50 (by decide) ?_
                refine wp_iload_n (pc := 52) dX12_proves_52 (by first | rfl | assumption | (repeat first | assumption | rfl | refine aG_n ?_ rfl rfl)) ?_
                refine wp_iconst (pc := 53) (v := 2) dX12_proves_53 (by decide) ?_
                refine wp_idiv (pc := 54) dX12_proves_54 (by decide) ?_
                refine wp_iload (pc := 55) dX12_proves_55 (by first | rfl | assumption | (repeat first | assumption | rfl | refine aG_n ?_ rfl rfl)) ?_
                refine wp_iload (pc := 57) dX12_proves_57 (by first | rfl | assumption | (repeat first | assumption | rfl | refine aG_n ?_ rfl rfl)) ?_
                refine wp_cS (pc := 59) dX12_proves_59 lk_12_357 rfl rfl rfl ?_
                refine wp_iload_n (pc := 0) dX12_sumBeside_0 (by first | rfl | assumption | (repeat first | assumption | rfl | refine aG_n ?_ rfl rfl)) ?_
                refine wp_iconst (pc := 1) (v := 2) dX12_sumBeside_1 (by decide) ?_
                refine wp_irem (pc := 2) dX12_sumBeside_2 (by decide) ?_
                refine wp_if_ne (pc := 3) (tgt := 14) dX12_sumBeside_3 rfl (fun _ => ?_) (fun q => absurd q (by decide))
                refine wp_iload_n (pc := 14) dX12_sumBeside_14 (by first | rfl | assumption | (repeat first | assumption | rfl | refine aG_n ?_ rfl rfl)) ?_
                refine wp_iload_n (pc := 15) dX12_sumBeside_15 (by first | rfl | assumption | (repeat first | assumption | rfl | refine aG_n ?_ rfl rfl)) ?_
                refine wp_cS (pc := 16) dX12_sumBeside_16 lk_12_344 rfl rfl rfl (c_X12_sumOf (aK_i ?_))
                refine wp_iretK (pc := 19) dX12_sumBeside_19 rfl (by first | rfl | decide | assumption) ?_
                refine wp_istore (pc := 62) dX12_proves_62 (by decide) ?_
                refine wp_iload_n (pc := 64) dX12_proves_64 (by first | rfl | assumption | (repeat first | assumption | rfl | refine aG_n ?_ rfl rfl)) ?_
                refine wp_iconst (pc := 65) (v := 4) dX12_proves_65 (by decide) ?_
                refine wp_idiv (pc := 66) dX12_proves_66 (by decide) ?_
                refine wp_iload (pc := 67) dX12_proves_67 (by first | rfl | assumption | (repeat first | assumption | rfl | refine aG_n ?_ rfl rfl)) ?_
                refine wp_iload (pc := 69) dX12_proves_69 (by first | rfl | assumption | (repeat first | assumption | rfl | refine aG_n ?_ rfl rfl)) ?_
                refine wp_cS (pc := 71) dX12_proves_71 lk_12_357 rfl rfl rfl ?_
                refine wp_iload_n (pc := 0) dX12_sumBeside_0 (by first | rfl | assumption | (repeat first | assumption | rfl | refine aG_n ?_ rfl rfl)) ?_
                refine wp_iconst (pc := 1) (v := 2) dX12_sumBeside_1 (by decide) ?_
                refine wp_irem (pc := 2) dX12_sumBeside_2 (by decide) ?_
                refine wp_if_ne (pc := 3) (tgt := 14) dX12_sumBeside_3 rfl (fun _ => ?_) (fun q => absurd q (by decide))
                refine wp_iload_n (pc := 14) dX12_sumBeside_14 (by first | rfl | assumption | (repeat first | assumption | rfl | refine aG_n ?_ rfl rfl)) ?_
                refine wp_iload_n (pc := 15) dX12_sumBeside_15 (by first | rfl | assumption | (repeat first | assumption | rfl | refine aG_n ?_ rfl rfl)) ?_
                refine wp_cS (pc := 16) dX12_sumBeside_16 lk_12_344 rfl rfl rfl (c_X12_sumOf (aK_i ?_))
                refine wp_iretK (pc := 19) dX12_sumBeside_19 rfl (by first | rfl | decide | assumption) ?_
                refine wp_aload_n (pc := 74) dX12_proves_74 (by first | rfl | assumption | (repeat first | assumption | rfl | refine aG_n ?_ rfl rfl)) ?_
                refine wp_iconst (pc := 75) (v := 0) dX12_proves_75 (by decide) ?_
                refine wp_bipush (pc := 76) (v := 8) dX12_proves_76 (by decide) ?_
                refine wp_cV (pc := 78) dX12_proves_78 lk_12_349 rfl (by decide) rfl (by first | rfl | assumption | exact sh_house (by omega) | exact sh_wish (by omega) | exact sh_wor (by omega) | exact sh_bar (by omega) | exact sh_term (by omega) | exact sh_sheet (by omega) | exact sh_items (by omega) | exact sh_sums (by omega)) rfl rfl ?_
                refine wp_aload_n (pc := 0) dX12_sumFrom_0 (by first | rfl | assumption | (repeat first | assumption | rfl | refine aG_n ?_ rfl rfl)) ?_
                refine wp_getR (pc := 1) dX12_sumFrom_1 fl_12_119 (by first | rfl | assumption | exact sh_house (by omega) | exact sh_wish (by omega) | exact sh_wor (by omega) | exact sh_bar (by omega) | exact sh_term (by omega) | exact sh_sheet (by omega) | exact sh_items (by omega) | exact sh_sums (by omega)) rfl ?_
                refine wp_iload_n (pc := 4) dX12_sumFrom_4 (by first | rfl | assumption | (repeat first | assumption | rfl | refine aG_n ?_ rfl rfl)) ?_
                refine wp_ialdC (pc := 5) (j := 0) dX12_sumFrom_5 (by first | rfl | assumption | exact sh_house (by omega) | exact sh_wish (by omega) | exact sh_wor (by omega) | exact sh_bar (by omega) | exact sh_term (by omega) | exact sh_sheet (by omega) | exact sh_items (by omega) | exact sh_sums (by omega)) (by decide) (by decide) ?_
                refine wp_aload_n (pc := 6) dX12_sumFrom_6 (by first | rfl | assumption | (repeat first | assumption | rfl | refine aG_n ?_ rfl rfl)) ?_
                refine wp_getR (pc := 7) dX12_sumFrom_7 fl_12_119 (by first | rfl | assumption | exact sh_house (by omega) | exact sh_wish (by omega) | exact sh_wor (by omega) | exact sh_bar (by omega) | exact sh_term (by omega) | exact sh_sheet (by omega) | exact sh_items (by omega) | exact sh_sums (by omega)) rfl ?_
                refine wp_iload_n (pc := 10) dX12_sumFrom_10 (by first | rfl | assumption | (repeat first | assumption | rfl | refine aG_n ?_ rfl rfl)) ?_
                refine wp_iconst (pc := 11) (v := 1) dX12_sumFrom_11 (by decide) ?_
                refine wp_iadd (pc := 12) dX12_sumFrom_12 ?_
                refine wp_bipush (pc := 13) (v := 8) dX12_sumFrom_13 (by decide) ?_
                refine wp_irem (pc := 15) dX12_sumFrom_15 (by decide) ?_
                refine wp_ialdC (pc := 16) (j := 1) dX12_sumFrom_16 (by first | rfl | assumption | exact sh_house (by omega) | exact sh_wish (by omega) | exact sh_wor (by omega) | exact sh_bar (by omega) | exact sh_term (by omega) | exact sh_sheet (by omega) | exact sh_items (by omega) | exact sh_sums (by omega)) (by decide) (by decide) ?_
                refine wp_cS (pc := 17) dX12_sumFrom_17 lk_12_344 rfl rfl rfl (c_X12_sumOf (aK_i ?_))
                refine wp_istore_n (pc := 20) dX12_sumFrom_20 (by decide) ?_
                refine wp_iload_n (pc := 21) dX12_sumFrom_21 (by first | rfl | assumption | (repeat first | assumption | rfl | refine aG_n ?_ rfl rfl)) ?_
                refine wp_iconst (pc := 22) (v := 4) dX12_sumFrom_22 (by decide) ?_
                refine wp_icmp_ge (pc := 23) (tgt := 42) dX12_sumFrom_23 rfl (fun _ => ?_) (fun q => absurd q (by decide))
                refine wp_iload_n (pc := 42) dX12_sumFrom_42 (by first | rfl | assumption | (repeat first | assumption | rfl | refine aG_n ?_ rfl rfl)) ?_
                refine wp_aload_n (pc := 43) dX12_sumFrom_43 (by first | rfl | assumption | (repeat first | assumption | rfl | refine aG_n ?_ rfl rfl)) ?_
                refine wp_getR (pc := 44) dX12_sumFrom_44 fl_12_119 (by first | rfl | assumption | exact sh_house (by omega) | exact sh_wish (by omega) | exact sh_wor (by omega) | exact sh_bar (by omega) | exact sh_term (by omega) | exact sh_sheet (by omega) | exact sh_items (by omega) | exact sh_sums (by omega)) rfl ?_
                refine wp_iload_n (pc := 47) dX12_sumFrom_47 (by first | rfl | assumption | (repeat first | assumption | rfl | refine aG_n ?_ rfl rfl)) ?_
                refine wp_iconst (pc := 48) (v := 2) dX12_sumFrom_48 (by decide) ?_
                refine wp_iadd (pc := 49) dX12_sumFrom_49 ?_
                refine wp_ialdC (pc := 50) (j := 2) dX12_sumFrom_50 (by first | rfl | assumption | exact sh_house (by omega) | exact sh_wish (by omega) | exact sh_wor (by omega) | exact sh_bar (by omega) | exact sh_term (by omega) | exact sh_sheet (by omega) | exact sh_items (by omega) | exact sh_sums (by omega)) (by decide) (by decide) ?_
                refine wp_aload_n (pc := 51) dX12_sumFrom_51 (by first | rfl | assumption | (repeat first | assumption | rfl | refine aG_n ?_ rfl rfl)) ?_
                refine wp_getR (pc := 52) dX12_sumFrom_52 fl_12_119 (by first | rfl | assumption | exact sh_house (by omega) | exact sh_wish (by omega) | exact sh_wor (by omega) | exact sh_bar (by omega) | exact sh_term (by omega) | exact sh_sheet (by omega) | exact sh_items (by omega) | exact sh_sums (by omega)) rfl ?_
                refine wp_iload_n (pc := 55) dX12_sumFrom_55 (by first | rfl | assumption | (repeat first | assumption | rfl | refine aG_n ?_ rfl rfl)) ?_
                refine wp_iconst (pc := 56) (v := 3) dX12_sumFrom_56 (by decide) ?_
                refine wp_iadd (pc := 57) dX12_sumFrom_57 ?_
                refine wp_ialdC (pc := 58) (j := 3) dX12_sumFrom_58 (by first | rfl | assumption | exact sh_house (by omega) | exact sh_wish (by omega) | exact sh_wor (by omega) | exact sh_bar (by omega) | exact sh_term (by omega) | exact sh_sheet (by omega) | exact sh_items (by omega) | exact sh_sums (by omega)) (by decide) (by decide) ?_
                refine wp_cS (pc := 59) dX12_sumFrom_59 lk_12_344 rfl rfl rfl (c_X12_sumOf (aK_i ?_))
                refine wp_cS (pc := 62) dX12_sumFrom_62 lk_12_344 rfl rfl rfl (c_X12_sumOf (aK_i ?_))
                refine wp_istore (pc := 65) dX12_sumFrom_65 (by decide) ?_
                refine wp_iload_n (pc := 67) dX12_sumFrom_67 (by first | rfl | assumption | (repeat first | assumption | rfl | refine aG_n ?_ rfl rfl)) ?_
                refine wp_iconst (pc := 68) (v := 4) dX12_sumFrom_68 (by decide) ?_
                refine wp_icmp_ne (pc := 69) (tgt := 75) dX12_sumFrom_69 rfl (fun _ => ?_) (fun q => absurd q (by decide))
                refine wp_iload (pc := 75) dX12_sumFrom_75 (by first | rfl | assumption | (repeat first | assumption | rfl | refine aG_n ?_ rfl rfl)) ?_
                refine wp_aload_n (pc := 77) dX12_sumFrom_77 (by first | rfl | assumption | (repeat first | assumption | rfl | refine aG_n ?_ rfl rfl)) ?_
                refine wp_getR (pc := 78) dX12_sumFrom_78 fl_12_119 (by first | rfl | assumption | exact sh_house (by omega) | exact sh_wish (by omega) | exact sh_wor (by omega) | exact sh_bar (by omega) | exact sh_term (by omega) | exact sh_sheet (by omega) | exact sh_items (by omega) | exact sh_sums (by omega)) rfl ?_
                refine wp_iconst (pc := 81) (v := 4) dX12_sumFrom_81 (by decide) ?_
                refine wp_ialdC (pc := 82) (j := 4) dX12_sumFrom_82 (by first | rfl | assumption | exact sh_house (by omega) | exact sh_wish (by omega) | exact sh_wor (by omega) | exact sh_bar (by omega) | exact sh_term (by omega) | exact sh_sheet (by omega) | exact sh_items (by omega) | exact sh_sums (by omega)) (by decide) (by decide) ?_
                refine wp_aload_n (pc := 83) dX12_sumFrom_83 (by first | rfl | assumption | (repeat first | assumption | rfl | refine aG_n ?_ rfl rfl)) ?_
                refine wp_getR (pc := 84) dX12_sumFrom_84 fl_12_119 (by first | rfl | assumption | exact sh_house (by omega) | exact sh_wish (by omega) | exact sh_wor (by omega) | exact sh_bar (by omega) | exact sh_term (by omega) | exact sh_sheet (by omega) | exact sh_items (by omega) | exact sh_sums (by omega)) rfl ?_
                refine wp_iconst (pc := 87) (v := 5) dX12_sumFrom_87 (by decide) ?_
                refine wp_ialdC (pc := 88) (j := 5) dX12_sumFrom_88 (by first | rfl | assumption | exact sh_house (by omega) | exact sh_wish (by omega) | exact sh_wor (by omega) | exact sh_bar (by omega) | exact sh_term (by omega) | exact sh_sheet (by omega) | exact sh_items (by omega) | exact sh_sums (by omega)) (by decide) (by decide) ?_
                refine wp_cS (pc := 89) dX12_sumFrom_89 lk_12_344 rfl rfl rfl (c_X12_sumOf (aK_i ?_))
                refine wp_aload_n (pc := 92) dX12_sumFrom_92 (by first | rfl | assumption | (repeat first | assumption | rfl | refine aG_n ?_ rfl rfl)) ?_
                refine wp_getR (pc := 93) dX12_sumFrom_93 fl_12_119 (by first | rfl | assumption | exact sh_house (by omega) | exact sh_wish (by omega) | exact sh_wor (by omega) | exact sh_bar (by omega) | exact sh_term (by omega) | exact sh_sheet (by omega) | exact sh_items (by omega) | exact sh_sums (by omega)) rfl ?_
                refine wp_bipush (pc := 96) (v := 6) dX12_sumFrom_96 (by decide) ?_
                refine wp_ialdC (pc := 98) (j := 6) dX12_sumFrom_98 (by first | rfl | assumption | exact sh_house (by omega) | exact sh_wish (by omega) | exact sh_wor (by omega) | exact sh_bar (by omega) | exact sh_term (by omega) | exact sh_sheet (by omega) | exact sh_items (by omega) | exact sh_sums (by omega)) (by decide) (by decide) ?_
                refine wp_aload_n (pc := 99) dX12_sumFrom_99 (by first | rfl | assumption | (repeat first | assumption | rfl | refine aG_n ?_ rfl rfl)) ?_
                refine wp_getR (pc := 100) dX12_sumFrom_100 fl_12_119 (by first | rfl | assumption | exact sh_house (by omega) | exact sh_wish (by omega) | exact sh_wor (by omega) | exact sh_bar (by omega) | exact sh_term (by omega) | exact sh_sheet (by omega) | exact sh_items (by omega) | exact sh_sums (by omega)) rfl ?_
                refine wp_bipush (pc := 103) (v := 7) dX12_sumFrom_103 (by decide) ?_
                refine wp_ialdC (pc := 105) (j := 7) dX12_sumFrom_105 (by first | rfl | assumption | exact sh_house (by omega) | exact sh_wish (by omega) | exact sh_wor (by omega) | exact sh_bar (by omega) | exact sh_term (by omega) | exact sh_sheet (by omega) | exact sh_items (by omega) | exact sh_sums (by omega)) (by decide) (by decide) ?_
                refine wp_cS (pc := 106) dX12_sumFrom_106 lk_12_344 rfl rfl rfl (c_X12_sumOf (aK_i ?_))
                refine wp_cS (pc := 109) dX12_sumFrom_109 lk_12_344 rfl rfl rfl (c_X12_sumOf (aK_i ?_))
                refine wp_cS (pc := 112) dX12_sumFrom_112 lk_12_344 rfl rfl rfl (c_X12_sumOf (aK_i ?_))
                refine wp_iretK (pc := 115) dX12_sumFrom_115 rfl (by first | rfl | decide | assumption) ?_
                refine wp_icmp_ne (pc := 81) (tgt := 88) dX12_proves_81 rfl (fun q => absurd (by rw [root_eq hR]; exact c5) q) (fun _ => ?_)
                refine wp_iconst (pc := 84) (v := 1) dX12_proves_84 (by decide) ?_
                refine wp_goto (pc := 85) (tgt := 89) dX12_proves_85 rfl ?_
                refine wp_ireturn (pc := 89) dX12_proves_89 rfl (by first | rfl | decide | assumption) ?_
                exact k' _ hI
              · skip
                refine wp_iload_n (pc := 0) dX11_proves_0 (by first | rfl | assumption | (repeat first | assumption | rfl | refine aG_n ?_ rfl rfl)) ?_
                refine wp_iconst (pc := 1) (v := 0) dX11_proves_1 (by decide) ?_
                refine wp_bipush (pc := 2) (v := 7) dX11_proves_2 (by decide) ?_
                refine wp_cS (pc := 4) dX11_proves_4 lk_11_112 rfl rfl rfl (c_X11_isWithin (fun _ => aK_i ?_) (fun q => absurd c0 q))
                refine wp_if_eq (pc := 7) (tgt := 40) dX11_proves_7 rfl (fun q => absurd q (by decide)) (fun _ => ?_)
                refine wp_iload_n (pc := 10) dX11_proves_10 (by first | rfl | assumption | (repeat first | assumption | rfl | refine aG_n ?_ rfl rfl)) ?_
                refine wp_cS (pc := 11) dX11_proves_11 lk_11_355 rfl rfl rfl (c_X11_isSum (fun _ => aK_i ?_) (fun q => absurd c1 q))
                refine wp_if_eq (pc := 14) (tgt := 40) dX11_proves_14 rfl (fun q => absurd q (by decide)) (fun _ => ?_)
                refine wp_iload_n (pc := 17) dX11_proves_17 (by first | rfl | assumption | (repeat first | assumption | rfl | refine aG_n ?_ rfl rfl)) ?_
                refine wp_cS (pc := 18) dX11_proves_18 lk_11_355 rfl rfl rfl (c_X11_isSum (fun _ => aK_i ?_) (fun q => absurd c2 q))
                refine wp_if_eq (pc := 21) (tgt := 40) dX11_proves_21 rfl (fun q => absurd q (by decide)) (fun _ => ?_)
                refine wp_iload (pc := 24) dX11_proves_24 (by first | rfl | assumption | (repeat first | assumption | rfl | refine aG_n ?_ rfl rfl)) ?_
                refine wp_cS (pc := 26) dX11_proves_26 lk_11_355 rfl rfl rfl (c_X11_isSum (fun _ => aK_i ?_) (fun q => absurd c3 q))
                refine wp_if_eq (pc := 29) (tgt := 40) dX11_proves_29 rfl (fun q => absurd q (by decide)) (fun _ => ?_)
                refine wp_iload (pc := 32) dX11_proves_32 (by first | rfl | assumption | (repeat first | assumption | rfl | refine aG_n ?_ rfl rfl)) ?_
                refine wp_cS (pc := 34) dX11_proves_34 lk_11_355 rfl rfl rfl (c_X11_isSum (fun _ => aK_i ?_) (fun q => absurd c4 q))
                refine wp_if_ne (pc := 37) (tgt := 42) dX11_proves_37 rfl (fun _ => ?_) (fun q => absurd q (by decide))
                refine wp_iload_n (pc := 42) dX11_proves_42 (by first | rfl | assumption | (repeat first | assumption | rfl | refine aG_n ?_ rfl rfl)) ?_
                refine wp_iload_n (pc := 43) dX11_proves_43 (by first | rfl | assumption | (repeat first | assumption | rfl | refine aG_n ?_ rfl rfl)) ?_
                refine wp_iload_n (pc := 44) dX11_proves_44 (by first | rfl | assumption | (repeat first | assumption | rfl | refine aG_n ?_ rfl rfl)) ?_
                refine wp_cS (pc := 45) dX11_proves_45 lk_11_358 rfl rfl rfl ?_
                refine wp_iload_n (pc := 0) dX5_climb_0 (by first | rfl | assumption | (repeat first | assumption | rfl | refine aG_n ?_ rfl rfl)) ?_
                refine wp_iconst (pc := 1) (v := 1) dX5_climb_1 (by decide) ?_
                refine wp_iand (pc := 2) dX5_climb_2 ?_
                refine wp_if_ne (pc := 3) (tgt := 14) dX5_climb_3 rfl (fun _ => ?_) (fun q => absurd q (by decide))
                refine wp_iload_n (pc := 14) dX5_climb_14 (by first | rfl | assumption | (repeat first | assumption | rfl | refine aG_n ?_ rfl rfl)) ?_
                refine wp_iload_n (pc := 15) dX5_climb_15 (by first | rfl | assumption | (repeat first | assumption | rfl | refine aG_n ?_ rfl rfl)) ?_
                refine wp_cS (pc := 16) dX5_climb_16 lk_5_13 rfl rfl rfl (c_X5_sum (aK_i ?_))
                refine wp_iretK (pc := 19) dX5_climb_19 rfl (by first | rfl | decide | assumption) ?_
                refine wp_istore (pc := 48) dX11_proves_48 (by decide) ?_
                refine wp_iload_n (pc := 50) dX11_proves_50 (by first | rfl | assumption | (repeat first | assumption | rfl | refine aG_n ?_ rfl rfl)) ?_
                refine wp_iconst (pc := 51) (v := 1) dX11_proves_51 (by decide) ?_
                refine wp_ishr (pc := 52) dX11_proves_52 ?_
                refine wp_iload (pc := 53) dX11_proves_53 (by first | rfl | assumption | (repeat first | assumption | rfl | refine aG_n ?_ rfl rfl)) ?_
                refine wp_iload (pc := 55) dX11_proves_55 (by first | rfl | assumption | (repeat first | assumption | rfl | refine aG_n ?_ rfl rfl)) ?_
                refine wp_cS (pc := 57) dX11_proves_57 lk_11_358 rfl rfl rfl ?_
                refine wp_iload_n (pc := 0) dX5_climb_0 (by first | rfl | assumption | (repeat first | assumption | rfl | refine aG_n ?_ rfl rfl)) ?_
                refine wp_iconst (pc := 1) (v := 1) dX5_climb_1 (by decide) ?_
                refine wp_iand (pc := 2) dX5_climb_2 ?_
                refine wp_if_ne (pc := 3) (tgt := 14) dX5_climb_3 rfl (fun _ => ?_) (fun q => absurd q (by decide))
                refine wp_iload_n (pc := 14) dX5_climb_14 (by first | rfl | assumption | (repeat first | assumption | rfl | refine aG_n ?_ rfl rfl)) ?_
                refine wp_iload_n (pc := 15) dX5_climb_15 (by first | rfl | assumption | (repeat first | assumption | rfl | refine aG_n ?_ rfl rfl)) ?_
                refine wp_cS (pc := 16) dX5_climb_16 lk_5_13 rfl rfl rfl (c_X5_sum (aK_i ?_))
                refine wp_iretK (pc := 19) dX5_climb_19 rfl (by first | rfl | decide | assumption) ?_
                refine wp_istore (pc := 60) dX11_proves_60 (by decide) ?_
                refine wp_iload_n (pc := 62) dX11_proves_62 (by first | rfl | assumption | (repeat first | assumption | rfl | refine aG_n ?_ rfl rfl)) ?_
                refine wp_iconst (pc := 63) (v := 2) dX11_proves_63 (by decide) ?_
                refine wp_ishr (pc := 64) dX11_proves_64 ?_
                refine wp_iload (pc := 65) dX11_proves_65 (by first | rfl | assumption | (repeat first | assumption | rfl | refine aG_n ?_ rfl rfl)) ?_
                refine wp_iload (pc := 67) dX11_proves_67 (by first | rfl | assumption | (repeat first | assumption | rfl | refine aG_n ?_ rfl rfl)) ?_
                refine wp_cS (pc := 69) dX11_proves_69 lk_11_358 rfl rfl rfl ?_
                refine wp_iload_n (pc := 0) dX5_climb_0 (by first | rfl | assumption | (repeat first | assumption | rfl | refine aG_n ?_ rfl rfl)) ?_
                refine wp_iconst (pc := 1) (v := 1) dX5_climb_1 (by decide) ?_
                refine wp_iand (pc := 2) dX5_climb_2 ?_
                refine wp_if_ne (pc := 3) (tgt := 14) dX5_climb_3 rfl (fun _ => ?_) (fun q => absurd q (by decide))
                refine wp_iload_n (pc := 14) dX5_climb_14 (by first | rfl | assumption | (repeat first | assumption | rfl | refine aG_n ?_ rfl rfl)) ?_
                refine wp_iload_n (pc := 15) dX5_climb_15 (by first | rfl | assumption | (repeat first | assumption | rfl | refine aG_n ?_ rfl rfl)) ?_
                refine wp_cS (pc := 16) dX5_climb_16 lk_5_13 rfl rfl rfl (c_X5_sum (aK_i ?_))
                refine wp_iretK (pc := 19) dX5_climb_19 rfl (by first | rfl | decide | assumption) ?_
                refine wp_istore (pc := 72) dX11_proves_72 (by decide) ?_
                refine wp_iload (pc := 74) dX11_proves_74 (by first | rfl | assumption | (repeat first | assumption | rfl | refine aG_n ?_ rfl rfl)) ?_
                refine wp_aload_n (pc := 76) dX11_proves_76 (by first | rfl | assumption | (repeat first | assumption | rfl | refine aG_n ?_ rfl rfl)) ?_
                refine wp_getR (pc := 77) dX11_proves_77 fl_11_60 (by first | rfl | assumption | exact sh_house (by omega) | exact sh_wish (by omega) | exact sh_wor (by omega) | exact sh_bar (by omega) | exact sh_term (by omega) | exact sh_sheet (by omega) | exact sh_items (by omega) | exact sh_sums (by omega)) rfl ?_
                refine wp_getR (pc := 80) dX11_proves_80 fl_11_349 (by first | rfl | assumption | exact sh_house (by omega) | exact sh_wish (by omega) | exact sh_wor (by omega) | exact sh_bar (by omega) | exact sh_term (by omega) | exact sh_sheet (by omega) | exact sh_items (by omega) | exact sh_sums (by omega)) rfl ?_
                refine wp_iconst (pc := 83) (v := 1) dX11_proves_83 (by decide) ?_
                refine wp_ialdC (pc := 84) (j := 1) dX11_proves_84 (by first | rfl | assumption | exact sh_house (by omega) | exact sh_wish (by omega) | exact sh_wor (by omega) | exact sh_bar (by omega) | exact sh_term (by omega) | exact sh_sheet (by omega) | exact sh_items (by omega) | exact sh_sums (by omega)) (by decide) (by decide) ?_
                refine wp_icmp_ne (pc := 85) (tgt := 92) dX11_proves_85 rfl (fun _ => ?_) (fun q => absurd q c5)
                refine wp_iconst (pc := 92) (v := 0) dX11_proves_92 (by decide) ?_
                refine wp_cS (pc := 93) dX11_proves_93 lk_11_148 rfl rfl rfl ?_
                refine wp_iload_n (pc := 0) dX11_oneIf_0 (by first | rfl | assumption | (repeat first | assumption | rfl | refine aG_n ?_ rfl rfl)) ?_
                refine wp_if_eq (pc := 1) (tgt := 8) dX11_oneIf_1 rfl (fun _ => ?_) (fun q => absurd q (by decide))
                refine wp_iconst (pc := 8) (v := 0) dX11_oneIf_8 (by decide) ?_
                refine wp_iretK (pc := 9) dX11_oneIf_9 rfl (by first | rfl | decide | assumption) ?_
                refine wp_ireturn (pc := 96) dX11_proves_96 rfl (by first | rfl | decide | assumption) ?_
                refine k _ _ (fun Q' k' => ?_)
                refine wp_iload_n (pc := 0) dX12_proves_0 (by first | rfl | assumption | (repeat first | assumption | rfl | refine aG_n ?_ rfl rfl)) ?_
                refine wp_i2l (pc := 1) dX12_proves_1 ?_
                refine wp_lconst (pc := 2) (v := 0) dX12_proves_2 (by decide) ?_
                refine wp_ldc2 (pc := 3) dX12_proves_3 cl_12_347 ?_
                refine wp_cS (pc := 6) dX12_proves_6 lk_12_133 rfl rfl rfl (c_X12_in (fun _ => aK_i ?_) (fun q => absurd (by rw [w_int]; exact c0) q))
                refine wp_if_eq (pc := 9) (tgt := 42) dX12_proves_9 rfl (fun q => absurd q (by decide)) (fun _ => ?_)
                refine wp_iload_n (pc := 12) dX12_proves_12 (by first | rfl | assumption | (repeat first | assumption | rfl | refine aG_n ?_ rfl rfl)) ?_
                refine wp_cS (pc := 13) dX12_proves_13 lk_12_354 rfl rfl rfl (c_X12_isSum (fun _ => aK_i ?_) (fun q => absurd c1 q))
                refine wp_if_eq (pc := 16) (tgt := 42) dX12_proves_16 rfl (fun q => absurd q (by decide)) (fun _ => ?_)
                refine wp_iload_n (pc := 19) dX12_proves_19 (by first | rfl | assumption | (repeat first | assumption | rfl | refine aG_n ?_ rfl rfl)) ?_
                refine wp_cS (pc := 20) dX12_proves_20 lk_12_354 rfl rfl rfl (c_X12_isSum (fun _ => aK_i ?_) (fun q => absurd c2 q))
                refine wp_if_eq (pc := 23) (tgt := 42) dX12_proves_23 rfl (fun q => absurd q (by decide)) (fun _ => ?_)
                refine wp_iload (pc := 26) dX12_proves_26 (by first | rfl | assumption | (repeat first | assumption | rfl | refine aG_n ?_ rfl rfl)) ?_
                refine wp_cS (pc := 28) dX12_proves_28 lk_12_354 rfl rfl rfl (c_X12_isSum (fun _ => aK_i ?_) (fun q => absurd c3 q))
                refine wp_if_eq (pc := 31) (tgt := 42) dX12_proves_31 rfl (fun q => absurd q (by decide)) (fun _ => ?_)
                refine wp_iload (pc := 34) dX12_proves_34 (by first | rfl | assumption | (repeat first | assumption | rfl | refine aG_n ?_ rfl rfl)) ?_
                refine wp_cS (pc := 36) dX12_proves_36 lk_12_354 rfl rfl rfl (c_X12_isSum (fun _ => aK_i ?_) (fun q => absurd c4 q))
                refine wp_if_ne (pc := 39) (tgt := 44) dX12_proves_39 rfl (fun _ => ?_) (fun q => absurd q (by decide))
                refine wp_iload_n (pc := 44) dX12_proves_44 (by first | rfl | assumption | (repeat first | assumption | rfl | refine aG_n ?_ rfl rfl)) ?_
                refine wp_iload_n (pc := 45) dX12_proves_45 (by first | rfl | assumption | (repeat first | assumption | rfl | refine aG_n ?_ rfl rfl)) ?_
                refine wp_iload_n (pc := 46) dX12_proves_46 (by first | rfl | assumption | (repeat first | assumption | rfl | refine aG_n ?_ rfl rfl)) ?_
                refine wp_cS (pc := 47) dX12_proves_47 lk_12_357 rfl rfl rfl ?_
                refine wp_iload_n (pc := 0) dX12_sumBeside_0 (by first | rfl | assumption | (repeat first | assumption | rfl | refine aG_n ?_ rfl rfl)) ?_
                refine wp_iconst (pc := 1) (v := 2) dX12_sumBeside_1 (by decide) ?_
                refine wp_irem (pc := 2) dX12_sumBeside_2 (by decide) ?_
                refine wp_if_ne (pc := 3) (tgt := 14) dX12_sumBeside_3 rfl (fun _ => ?_) (fun q => absurd q (by decide))
                refine wp_iload_n (pc := 14) dX12_sumBeside_14 (by first | rfl | assumption | (repeat first | assumption | rfl | refine aG_n ?_ rfl rfl)) ?_
                refine wp_iload_n (pc := 15) dX12_sumBeside_15 (by first | rfl | assumption | (repeat first | assumption | rfl | refine aG_n ?_ rfl rfl)) ?_
                refine wp_cS (pc := 16) dX12_sumBeside_16 lk_12_344 rfl rfl rfl (c_X12_sumOf (aK_i ?_))
                refine wp_iretK (pc := 19) dX12_sumBeside_19 rfl (by first | rfl | decide | assumption) ?_
                refine wp_istore (pc := 50) dX12_proves_50 (by decide) ?_
                refine wp_iload_n (pc := 52) dX12_proves_52 (by first | rfl | assumption | (repeat first | assumption | rfl | refine aG_n ?_ rfl rfl)) ?_
                refine wp_iconst (pc := 53) (v := 2) dX12_proves_53 (by decide) ?_
                refine wp_idiv (pc := 54) dX12_proves_54 (by decide) ?_
                refine wp_iload (pc := 55) dX12_proves_55 (by first | rfl | assumption | (repeat first | assumption | rfl | refine aG_n ?_ rfl rfl)) ?_
                refine wp_iload (pc := 57) dX12_proves_57 (by first | rfl | assumption | (repeat first | assumption | rfl | refine aG_n ?_ rfl rfl)) ?_
                refine wp_cS (pc := 59) dX12_proves_59 lk_12_357 rfl rfl rfl ?_
                refine wp_iload_n (pc := 0) dX12_sumBeside_0 (by first | rfl | assumption | (repeat first | assumption | rfl | refine aG_n ?_ rfl rfl)) ?_
                refine wp_iconst (pc := 1) (v := 2) dX12_sumBeside_1 (by decide) ?_
                refine wp_irem (pc := 2) dX12_sumBeside_2 (by decide) ?_
                refine wp_if_ne (pc := 3) (tgt := 14) dX12_sumBeside_3 rfl (fun _ => ?_) (fun q => absurd q (by decide))
                refine wp_iload_n (pc := 14) dX12_sumBeside_14 (by first | rfl | assumption | (repeat first | assumption | rfl | refine aG_n ?_ rfl rfl)) ?_
                refine wp_iload_n (pc := 15) dX12_sumBeside_15 (by first | rfl | assumption | (repeat first | assumption | rfl | refine aG_n ?_ rfl rfl)) ?_
                refine wp_cS (pc := 16) dX12_sumBeside_16 lk_12_344 rfl rfl rfl (c_X12_sumOf (aK_i ?_))
                refine wp_iretK (pc := 19) dX12_sumBeside_19 rfl (by first | rfl | decide | assumption) ?_
                refine wp_istore (pc := 62) dX12_proves_62 (by decide) ?_
                refine wp_iload_n (pc := 64) dX12_proves_64 (by first | rfl | assumption | (repeat first | assumption | rfl | refine aG_n ?_ rfl rfl)) ?_
                refine wp_iconst (pc := 65) (v := 4) dX12_proves_65 (by decide) ?_
                refine wp_idiv (pc := 66) dX12_proves_66 (by decide) ?_
                refine wp_iload (pc := 67) dX12_proves_67 (by first | rfl | assumption | (repeat first | assumption | rfl | refine aG_n ?_ rfl rfl)) ?_
                refine wp_iload (pc := 69) dX12_proves_69 (by first | rfl | assumption | (repeat first | assumption | rfl | refine aG_n ?_ rfl rfl)) ?_
                refine wp_cS (pc := 71) dX12_proves_71 lk_12_357 rfl rfl rfl ?_
                refine wp_iload_n (pc := 0) dX12_sumBeside_0 (by first | rfl | assumption | (repeat first | assumption | rfl | refine aG_n ?_ rfl rfl)) ?_
                refine wp_iconst (pc := 1) (v := 2) dX12_sumBeside_1 (by decide) ?_
                refine wp_irem (pc := 2) dX12_sumBeside_2 (by decide) ?_
                refine wp_if_ne (pc := 3) (tgt := 14) dX12_sumBeside_3 rfl (fun _ => ?_) (fun q => absurd q (by decide))
                refine wp_iload_n (pc := 14) dX12_sumBeside_14 (by first | rfl | assumption | (repeat first | assumption | rfl | refine aG_n ?_ rfl rfl)) ?_
                refine wp_iload_n (pc := 15) dX12_sumBeside_15 (by first | rfl | assumption | (repeat first | assumption | rfl | refine aG_n ?_ rfl rfl)) ?_
                refine wp_cS (pc := 16) dX12_sumBeside_16 lk_12_344 rfl rfl rfl (c_X12_sumOf (aK_i ?_))
                refine wp_iretK (pc := 19) dX12_sumBeside_19 rfl (by first | rfl | decide | assumption) ?_
                refine wp_aload_n (pc := 74) dX12_proves_74 (by first | rfl | assumption | (repeat first | assumption | rfl | refine aG_n ?_ rfl rfl)) ?_
                refine wp_iconst (pc := 75) (v := 0) dX12_proves_75 (by decide) ?_
                refine wp_bipush (pc := 76) (v := 8) dX12_proves_76 (by decide) ?_
                refine wp_cV (pc := 78) dX12_proves_78 lk_12_349 rfl (by decide) rfl (by first | rfl | assumption | exact sh_house (by omega) | exact sh_wish (by omega) | exact sh_wor (by omega) | exact sh_bar (by omega) | exact sh_term (by omega) | exact sh_sheet (by omega) | exact sh_items (by omega) | exact sh_sums (by omega)) rfl rfl ?_
                refine wp_aload_n (pc := 0) dX12_sumFrom_0 (by first | rfl | assumption | (repeat first | assumption | rfl | refine aG_n ?_ rfl rfl)) ?_
                refine wp_getR (pc := 1) dX12_sumFrom_1 fl_12_119 (by first | rfl | assumption | exact sh_house (by omega) | exact sh_wish (by omega) | exact sh_wor (by omega) | exact sh_bar (by omega) | exact sh_term (by omega) | exact sh_sheet (by omega) | exact sh_items (by omega) | exact sh_sums (by omega)) rfl ?_
                refine wp_iload_n (pc := 4) dX12_sumFrom_4 (by first | rfl | assumption | (repeat first | assumption | rfl | refine aG_n ?_ rfl rfl)) ?_
                refine wp_ialdC (pc := 5) (j := 0) dX12_sumFrom_5 (by first | rfl | assumption | exact sh_house (by omega) | exact sh_wish (by omega) | exact sh_wor (by omega) | exact sh_bar (by omega) | exact sh_term (by omega) | exact sh_sheet (by omega) | exact sh_items (by omega) | exact sh_sums (by omega)) (by decide) (by decide) ?_
                refine wp_aload_n (pc := 6) dX12_sumFrom_6 (by first | rfl | assumption | (repeat first | assumption | rfl | refine aG_n ?_ rfl rfl)) ?_
                refine wp_getR (pc := 7) dX12_sumFrom_7 fl_12_119 (by first | rfl | assumption | exact sh_house (by omega) | exact sh_wish (by omega) | exact sh_wor (by omega) | exact sh_bar (by omega) | exact sh_term (by omega) | exact sh_sheet (by omega) | exact sh_items (by omega) | exact sh_sums (by omega)) rfl ?_
                refine wp_iload_n (pc := 10) dX12_sumFrom_10 (by first | rfl | assumption | (repeat first | assumption | rfl | refine aG_n ?_ rfl rfl)) ?_
                refine wp_iconst (pc := 11) (v := 1) dX12_sumFrom_11 (by decide) ?_
                refine wp_iadd (pc := 12) dX12_sumFrom_12 ?_
                refine wp_bipush (pc := 13) (v := 8) dX12_sumFrom_13 (by decide) ?_
                refine wp_irem (pc := 15) dX12_sumFrom_15 (by decide) ?_
                refine wp_ialdC (pc := 16) (j := 1) dX12_sumFrom_16 (by first | rfl | assumption | exact sh_house (by omega) | exact sh_wish (by omega) | exact sh_wor (by omega) | exact sh_bar (by omega) | exact sh_term (by omega) | exact sh_sheet (by omega) | exact sh_items (by omega) | exact sh_sums (by omega)) (by decide) (by decide) ?_
                refine wp_cS (pc := 17) dX12_sumFrom_17 lk_12_344 rfl rfl rfl (c_X12_sumOf (aK_i ?_))
                refine wp_istore_n (pc := 20) dX12_sumFrom_20 (by decide) ?_
                refine wp_iload_n (pc := 21) dX12_sumFrom_21 (by first | rfl | assumption | (repeat first | assumption | rfl | refine aG_n ?_ rfl rfl)) ?_
                refine wp_iconst (pc := 22) (v := 4) dX12_sumFrom_22 (by decide) ?_
                refine wp_icmp_ge (pc := 23) (tgt := 42) dX12_sumFrom_23 rfl (fun _ => ?_) (fun q => absurd q (by decide))
                refine wp_iload_n (pc := 42) dX12_sumFrom_42 (by first | rfl | assumption | (repeat first | assumption | rfl | refine aG_n ?_ rfl rfl)) ?_
                refine wp_aload_n (pc := 43) dX12_sumFrom_43 (by first | rfl | assumption | (repeat first | assumption | rfl | refine aG_n ?_ rfl rfl)) ?_
                refine wp_getR (pc := 44) dX12_sumFrom_44 fl_12_119 (by first | rfl | assumption | exact sh_house (by omega) | exact sh_wish (by omega) | exact sh_wor (by omega) | exact sh_bar (by omega) | exact sh_term (by omega) | exact sh_sheet (by omega) | exact sh_items (by omega) | exact sh_sums (by omega)) rfl ?_
                refine wp_iload_n (pc := 47) dX12_sumFrom_47 (by first | rfl | assumption | (repeat first | assumption | rfl | refine aG_n ?_ rfl rfl)) ?_
                refine wp_iconst (pc := 48) (v := 2) dX12_sumFrom_48 (by decide) ?_
                refine wp_iadd (pc := 49) dX12_sumFrom_49 ?_
                refine wp_ialdC (pc := 50) (j := 2) dX12_sumFrom_50 (by first | rfl | assumption | exact sh_house (by omega) | exact sh_wish (by omega) | exact sh_wor (by omega) | exact sh_bar (by omega) | exact sh_term (by omega) | exact sh_sheet (by omega) | exact sh_items (by omega) | exact sh_sums (by omega)) (by decide) (by decide) ?_
                refine wp_aload_n (pc := 51) dX12_sumFrom_51 (by first | rfl | assumption | (repeat first | assumption | rfl | refine aG_n ?_ rfl rfl)) ?_
                refine wp_getR (pc := 52) dX12_sumFrom_52 fl_12_119 (by first | rfl | assumption | exact sh_house (by omega) | exact sh_wish (by omega) | exact sh_wor (by omega) | exact sh_bar (by omega) | exact sh_term (by omega) | exact sh_sheet (by omega) | exact sh_items (by omega) | exact sh_sums (by omega)) rfl ?_
                refine wp_iload_n (pc := 55) dX12_sumFrom_55 (by first | rfl | assumption | (repeat first | assumption | rfl | refine aG_n ?_ rfl rfl)) ?_
                refine wp_iconst (pc := 56) (v := 3) dX12_sumFrom_56 (by decide) ?_
                refine wp_iadd (pc := 57) dX12_sumFrom_57 ?_
                refine wp_ialdC (pc := 58) (j := 3) dX12_sumFrom_58 (by first | rfl | assumption | exact sh_house (by omega) | exact sh_wish (by omega) | exact sh_wor (by omega) | exact sh_bar (by omega) | exact sh_term (by omega) | exact sh_sheet (by omega) | exact sh_items (by omega) | exact sh_sums (by omega)) (by decide) (by decide) ?_
                refine wp_cS (pc := 59) dX12_sumFrom_59 lk_12_344 rfl rfl rfl (c_X12_sumOf (aK_i ?_))
                refine wp_cS (pc := 62) dX12_sumFrom_62 lk_12_344 rfl rfl rfl (c_X12_sumOf (aK_i ?_))
                refine wp_istore (pc := 65) dX12_sumFrom_65 (by decide) ?_
                refine wp_iload_n (pc := 67) dX12_sumFrom_67 (by first | rfl | assumption | (repeat first | assumption | rfl | refine aG_n ?_ rfl rfl)) ?_
                refine wp_iconst (pc := 68) (v := 4) dX12_sumFrom_68 (by decide) ?_
                refine wp_icmp_ne (pc := 69) (tgt := 75) dX12_sumFrom_69 rfl (fun _ => ?_) (fun q => absurd q (by decide))
                refine wp_iload (pc := 75) dX12_sumFrom_75 (by first | rfl | assumption | (repeat first | assumption | rfl | refine aG_n ?_ rfl rfl)) ?_
                refine wp_aload_n (pc := 77) dX12_sumFrom_77 (by first | rfl | assumption | (repeat first | assumption | rfl | refine aG_n ?_ rfl rfl)) ?_
                refine wp_getR (pc := 78) dX12_sumFrom_78 fl_12_119 (by first | rfl | assumption | exact sh_house (by omega) | exact sh_wish (by omega) | exact sh_wor (by omega) | exact sh_bar (by omega) | exact sh_term (by omega) | exact sh_sheet (by omega) | exact sh_items (by omega) | exact sh_sums (by omega)) rfl ?_
                refine wp_iconst (pc := 81) (v := 4) dX12_sumFrom_81 (by decide) ?_
                refine wp_ialdC (pc := 82) (j := 4) dX12_sumFrom_82 (by first | rfl | assumption | exact sh_house (by omega) | exact sh_wish (by omega) | exact sh_wor (by omega) | exact sh_bar (by omega) | exact sh_term (by omega) | exact sh_sheet (by omega) | exact sh_items (by omega) | exact sh_sums (by omega)) (by decide) (by decide) ?_
                refine wp_aload_n (pc := 83) dX12_sumFrom_83 (by first | rfl | assumption | (repeat first | assumption | rfl | refine aG_n ?_ rfl rfl)) ?_
                refine wp_getR (pc := 84) dX12_sumFrom_84 fl_12_119 (by first | rfl | assumption | exact sh_house (by omega) | exact sh_wish (by omega) | exact sh_wor (by omega) | exact sh_bar (by omega) | exact sh_term (by omega) | exact sh_sheet (by omega) | exact sh_items (by omega) | exact sh_sums (by omega)) rfl ?_
                refine wp_iconst (pc := 87) (v := 5) dX12_sumFrom_87 (by decide) ?_
                refine wp_ialdC (pc := 88) (j := 5) dX12_sumFrom_88 (by first | rfl | assumption | exact sh_house (by omega) | exact sh_wish (by omega) | exact sh_wor (by omega) | exact sh_bar (by omega) | exact sh_term (by omega) | exact sh_sheet (by omega) | exact sh_items (by omega) | exact sh_sums (by omega)) (by decide) (by decide) ?_
                refine wp_cS (pc := 89) dX12_sumFrom_89 lk_12_344 rfl rfl rfl (c_X12_sumOf (aK_i ?_))
                refine wp_aload_n (pc := 92) dX12_sumFrom_92 (by first | rfl | assumption | (repeat first | assumption | rfl | refine aG_n ?_ rfl rfl)) ?_
                refine wp_getR (pc := 93) dX12_sumFrom_93 fl_12_119 (by first | rfl | assumption | exact sh_house (by omega) | exact sh_wish (by omega) | exact sh_wor (by omega) | exact sh_bar (by omega) | exact sh_term (by omega) | exact sh_sheet (by omega) | exact sh_items (by omega) | exact sh_sums (by omega)) rfl ?_
                refine wp_bipush (pc := 96) (v := 6) dX12_sumFrom_96 (by decide) ?_
                refine wp_ialdC (pc := 98) (j := 6) dX12_sumFrom_98 (by first | rfl | assumption | exact sh_house (by omega) | exact sh_wish (by omega) | exact sh_wor (by omega) | exact sh_bar (by omega) | exact sh_term (by omega) | exact sh_sheet (by omega) | exact sh_items (by omega) | exact sh_sums (by omega)) (by decide) (by decide) ?_
                refine wp_aload_n (pc := 99) dX12_sumFrom_99 (by first | rfl | assumption | (repeat first | assumption | rfl | refine aG_n ?_ rfl rfl)) ?_
                refine wp_getR (pc := 100) dX12_sumFrom_100 fl_12_119 (by first | rfl | assumption | exact sh_house (by omega) | exact sh_wish (by omega) | exact sh_wor (by omega) | exact sh_bar (by omega) | exact sh_term (by omega) | exact sh_sheet (by omega) | exact sh_items (by omega) | exact sh_sums (by omega)) rfl ?_
                refine wp_bipush (pc := 103) (v := 7) dX12_sumFrom_103 (by decide) ?_
                refine wp_ialdC (pc := 105) (j := 7) dX12_sumFrom_105 (by first | rfl | assumption | exact sh_house (by omega) | exact sh_wish (by omega) | exact sh_wor (by omega) | exact sh_bar (by omega) | exact sh_term (by omega) | exact sh_sheet (by omega) | exact sh_items (by omega) | exact sh_sums (by omega)) (by decide) (by decide) ?_
                refine wp_cS (pc := 106) dX12_sumFrom_106 lk_12_344 rfl rfl rfl (c_X12_sumOf (aK_i ?_))
                refine wp_cS (pc := 109) dX12_sumFrom_109 lk_12_344 rfl rfl rfl (c_X12_sumOf (aK_i ?_))
                refine wp_cS (pc := 112) dX12_sumFrom_112 lk_12_344 rfl rfl rfl (c_X12_sumOf (aK_i ?_))
                refine wp_iretK (pc := 115) dX12_sumFrom_115 rfl (by first | rfl | decide | assumption) ?_
                refine wp_icmp_ne (pc := 81) (tgt := 88) dX12_proves_81 rfl (fun _ => ?_) (fun q => absurd q (by rw [root_eq hR]; exact c5))
                refine wp_iconst (pc := 88) (v := 0) dX12_proves_88 (by decide) ?_
                refine wp_ireturn (pc := 89) dX12_proves_89 rfl (by first | rfl | decide | assumption) ?_
                exact k' _ hI
            | _ + 8, hj => omega
          · skip
            refine wp_iload_n (pc := 0) dX11_proves_0 (by first | rfl | assumption | (repeat first | assumption | rfl | refine aG_n ?_ rfl rfl)) ?_
            refine wp_iconst (pc := 1) (v := 0) dX11_proves_1 (by decide) ?_
            refine wp_bipush (pc := 2) (v := 7) dX11_proves_2 (by decide) ?_
            refine wp_cS (pc := 4) dX11_proves_4 lk_11_112 rfl rfl rfl (c_X11_isWithin (fun _ => aK_i ?_) (fun q => absurd c0 q))
            refine wp_if_eq (pc := 7) (tgt := 40) dX11_proves_7 rfl (fun q => absurd q (by decide)) (fun _ => ?_)
            refine wp_iload_n (pc := 10) dX11_proves_10 (by first | rfl | assumption | (repeat first | assumption | rfl | refine aG_n ?_ rfl rfl)) ?_
            refine wp_cS (pc := 11) dX11_proves_11 lk_11_355 rfl rfl rfl (c_X11_isSum (fun _ => aK_i ?_) (fun q => absurd c1 q))
            refine wp_if_eq (pc := 14) (tgt := 40) dX11_proves_14 rfl (fun q => absurd q (by decide)) (fun _ => ?_)
            refine wp_iload_n (pc := 17) dX11_proves_17 (by first | rfl | assumption | (repeat first | assumption | rfl | refine aG_n ?_ rfl rfl)) ?_
            refine wp_cS (pc := 18) dX11_proves_18 lk_11_355 rfl rfl rfl (c_X11_isSum (fun _ => aK_i ?_) (fun q => absurd c2 q))
            refine wp_if_eq (pc := 21) (tgt := 40) dX11_proves_21 rfl (fun q => absurd q (by decide)) (fun _ => ?_)
            refine wp_iload (pc := 24) dX11_proves_24 (by first | rfl | assumption | (repeat first | assumption | rfl | refine aG_n ?_ rfl rfl)) ?_
            refine wp_cS (pc := 26) dX11_proves_26 lk_11_355 rfl rfl rfl (c_X11_isSum (fun _ => aK_i ?_) (fun q => absurd c3 q))
            refine wp_if_eq (pc := 29) (tgt := 40) dX11_proves_29 rfl (fun q => absurd q (by decide)) (fun _ => ?_)
            refine wp_iload (pc := 32) dX11_proves_32 (by first | rfl | assumption | (repeat first | assumption | rfl | refine aG_n ?_ rfl rfl)) ?_
            refine wp_cS (pc := 34) dX11_proves_34 lk_11_355 rfl rfl rfl (c_X11_isSum (fun q => absurd q c4) (fun _ => aK_i ?_))
            refine wp_if_ne (pc := 37) (tgt := 42) dX11_proves_37 rfl (fun q => absurd q (by decide)) (fun _ => ?_)
            refine wp_iconst (pc := 40) (v := -1) dX11_proves_40 (by decide) ?_
            refine wp_ireturn (pc := 41) dX11_proves_41 rfl (by first | rfl | decide | assumption) ?_
            refine k _ _ (fun Q' k' => ?_)
            refine wp_iload_n (pc := 0) dX12_proves_0 (by first | rfl | assumption | (repeat first | assumption | rfl | refine aG_n ?_ rfl rfl)) ?_
            refine wp_i2l (pc := 1) dX12_proves_1 ?_
            refine wp_lconst (pc := 2) (v := 0) dX12_proves_2 (by decide) ?_
            refine wp_ldc2 (pc := 3) dX12_proves_3 cl_12_347 ?_
            refine wp_cS (pc := 6) dX12_proves_6 lk_12_133 rfl rfl rfl (c_X12_in (fun _ => aK_i ?_) (fun q => absurd (by rw [w_int]; exact c0) q))
            refine wp_if_eq (pc := 9) (tgt := 42) dX12_proves_9 rfl (fun q => absurd q (by decide)) (fun _ => ?_)
            refine wp_iload_n (pc := 12) dX12_proves_12 (by first | rfl | assumption | (repeat first | assumption | rfl | refine aG_n ?_ rfl rfl)) ?_
            refine wp_cS (pc := 13) dX12_proves_13 lk_12_354 rfl rfl rfl (c_X12_isSum (fun _ => aK_i ?_) (fun q => absurd c1 q))
            refine wp_if_eq (pc := 16) (tgt := 42) dX12_proves_16 rfl (fun q => absurd q (by decide)) (fun _ => ?_)
            refine wp_iload_n (pc := 19) dX12_proves_19 (by first | rfl | assumption | (repeat first | assumption | rfl | refine aG_n ?_ rfl rfl)) ?_
            refine wp_cS (pc := 20) dX12_proves_20 lk_12_354 rfl rfl rfl (c_X12_isSum (fun _ => aK_i ?_) (fun q => absurd c2 q))
            refine wp_if_eq (pc := 23) (tgt := 42) dX12_proves_23 rfl (fun q => absurd q (by decide)) (fun _ => ?_)
            refine wp_iload (pc := 26) dX12_proves_26 (by first | rfl | assumption | (repeat first | assumption | rfl | refine aG_n ?_ rfl rfl)) ?_
            refine wp_cS (pc := 28) dX12_proves_28 lk_12_354 rfl rfl rfl (c_X12_isSum (fun _ => aK_i ?_) (fun q => absurd c3 q))
            refine wp_if_eq (pc := 31) (tgt := 42) dX12_proves_31 rfl (fun q => absurd q (by decide)) (fun _ => ?_)
            refine wp_iload (pc := 34) dX12_proves_34 (by first | rfl | assumption | (repeat first | assumption | rfl | refine aG_n ?_ rfl rfl)) ?_
            refine wp_cS (pc := 36) dX12_proves_36 lk_12_354 rfl rfl rfl (c_X12_isSum (fun q => absurd q c4) (fun _ => aK_i ?_))
            refine wp_if_ne (pc := 39) (tgt := 44) dX12_proves_39 rfl (fun q => absurd q (by decide)) (fun _ => ?_)
            refine wp_iconst (pc := 42) (v := -1) dX12_proves_42 (by decide) ?_
            refine wp_ireturn (pc := 43) dX12_proves_43 rfl (by first | rfl | decide | assumption) ?_
            exact k' _ hI
        · skip
          refine wp_iload_n (pc := 0) dX11_proves_0 (by first | rfl | assumption | (repeat first | assumption | rfl | refine aG_n ?_ rfl rfl)) ?_
          refine wp_iconst (pc := 1) (v := 0) dX11_proves_1 (by decide) ?_
          refine wp_bipush (pc := 2) (v := 7) dX11_proves_2 (by decide) ?_
          refine wp_cS (pc := 4) dX11_proves_4 lk_11_112 rfl rfl rfl (c_X11_isWithin (fun _ => aK_i ?_) (fun q => absurd c0 q))
          refine wp_if_eq (pc := 7) (tgt := 40) dX11_proves_7 rfl (fun q => absurd q (by decide)) (fun _ => ?_)
          refine wp_iload_n (pc := 10) dX11_proves_10 (by first | rfl | assumption | (repeat first | assumption | rfl | refine aG_n ?_ rfl rfl)) ?_
          refine wp_cS (pc := 11) dX11_proves_11 lk_11_355 rfl rfl rfl (c_X11_isSum (fun _ => aK_i ?_) (fun q => absurd c1 q))
          refine wp_if_eq (pc := 14) (tgt := 40) dX11_proves_14 rfl (fun q => absurd q (by decide)) (fun _ => ?_)
          refine wp_iload_n (pc := 17) dX11_proves_17 (by first | rfl | assumption | (repeat first | assumption | rfl | refine aG_n ?_ rfl rfl)) ?_
          refine wp_cS (pc := 18) dX11_proves_18 lk_11_355 rfl rfl rfl (c_X11_isSum (fun _ => aK_i ?_) (fun q => absurd c2 q))
          refine wp_if_eq (pc := 21) (tgt := 40) dX11_proves_21 rfl (fun q => absurd q (by decide)) (fun _ => ?_)
          refine wp_iload (pc := 24) dX11_proves_24 (by first | rfl | assumption | (repeat first | assumption | rfl | refine aG_n ?_ rfl rfl)) ?_
          refine wp_cS (pc := 26) dX11_proves_26 lk_11_355 rfl rfl rfl (c_X11_isSum (fun q => absurd q c3) (fun _ => aK_i ?_))
          refine wp_if_eq (pc := 29) (tgt := 40) dX11_proves_29 rfl (fun _ => ?_) (fun q => absurd q (by decide))
          refine wp_iconst (pc := 40) (v := -1) dX11_proves_40 (by decide) ?_
          refine wp_ireturn (pc := 41) dX11_proves_41 rfl (by first | rfl | decide | assumption) ?_
          refine k _ _ (fun Q' k' => ?_)
          refine wp_iload_n (pc := 0) dX12_proves_0 (by first | rfl | assumption | (repeat first | assumption | rfl | refine aG_n ?_ rfl rfl)) ?_
          refine wp_i2l (pc := 1) dX12_proves_1 ?_
          refine wp_lconst (pc := 2) (v := 0) dX12_proves_2 (by decide) ?_
          refine wp_ldc2 (pc := 3) dX12_proves_3 cl_12_347 ?_
          refine wp_cS (pc := 6) dX12_proves_6 lk_12_133 rfl rfl rfl (c_X12_in (fun _ => aK_i ?_) (fun q => absurd (by rw [w_int]; exact c0) q))
          refine wp_if_eq (pc := 9) (tgt := 42) dX12_proves_9 rfl (fun q => absurd q (by decide)) (fun _ => ?_)
          refine wp_iload_n (pc := 12) dX12_proves_12 (by first | rfl | assumption | (repeat first | assumption | rfl | refine aG_n ?_ rfl rfl)) ?_
          refine wp_cS (pc := 13) dX12_proves_13 lk_12_354 rfl rfl rfl (c_X12_isSum (fun _ => aK_i ?_) (fun q => absurd c1 q))
          refine wp_if_eq (pc := 16) (tgt := 42) dX12_proves_16 rfl (fun q => absurd q (by decide)) (fun _ => ?_)
          refine wp_iload_n (pc := 19) dX12_proves_19 (by first | rfl | assumption | (repeat first | assumption | rfl | refine aG_n ?_ rfl rfl)) ?_
          refine wp_cS (pc := 20) dX12_proves_20 lk_12_354 rfl rfl rfl (c_X12_isSum (fun _ => aK_i ?_) (fun q => absurd c2 q))
          refine wp_if_eq (pc := 23) (tgt := 42) dX12_proves_23 rfl (fun q => absurd q (by decide)) (fun _ => ?_)
          refine wp_iload (pc := 26) dX12_proves_26 (by first | rfl | assumption | (repeat first | assumption | rfl | refine aG_n ?_ rfl rfl)) ?_
          refine wp_cS (pc := 28) dX12_proves_28 lk_12_354 rfl rfl rfl (c_X12_isSum (fun q => absurd q c3) (fun _ => aK_i ?_))
          refine wp_if_eq (pc := 31) (tgt := 42) dX12_proves_31 rfl (fun _ => ?_) (fun q => absurd q (by decide))
          refine wp_iconst (pc := 42) (v := -1) dX12_proves_42 (by decide) ?_
          refine wp_ireturn (pc := 43) dX12_proves_43 rfl (by first | rfl | decide | assumption) ?_
          exact k' _ hI
      · skip
        refine wp_iload_n (pc := 0) dX11_proves_0 (by first | rfl | assumption | (repeat first | assumption | rfl | refine aG_n ?_ rfl rfl)) ?_
        refine wp_iconst (pc := 1) (v := 0) dX11_proves_1 (by decide) ?_
        refine wp_bipush (pc := 2) (v := 7) dX11_proves_2 (by decide) ?_
        refine wp_cS (pc := 4) dX11_proves_4 lk_11_112 rfl rfl rfl (c_X11_isWithin (fun _ => aK_i ?_) (fun q => absurd c0 q))
        refine wp_if_eq (pc := 7) (tgt := 40) dX11_proves_7 rfl (fun q => absurd q (by decide)) (fun _ => ?_)
        refine wp_iload_n (pc := 10) dX11_proves_10 (by first | rfl | assumption | (repeat first | assumption | rfl | refine aG_n ?_ rfl rfl)) ?_
        refine wp_cS (pc := 11) dX11_proves_11 lk_11_355 rfl rfl rfl (c_X11_isSum (fun _ => aK_i ?_) (fun q => absurd c1 q))
        refine wp_if_eq (pc := 14) (tgt := 40) dX11_proves_14 rfl (fun q => absurd q (by decide)) (fun _ => ?_)
        refine wp_iload_n (pc := 17) dX11_proves_17 (by first | rfl | assumption | (repeat first | assumption | rfl | refine aG_n ?_ rfl rfl)) ?_
        refine wp_cS (pc := 18) dX11_proves_18 lk_11_355 rfl rfl rfl (c_X11_isSum (fun q => absurd q c2) (fun _ => aK_i ?_))
        refine wp_if_eq (pc := 21) (tgt := 40) dX11_proves_21 rfl (fun _ => ?_) (fun q => absurd q (by decide))
        refine wp_iconst (pc := 40) (v := -1) dX11_proves_40 (by decide) ?_
        refine wp_ireturn (pc := 41) dX11_proves_41 rfl (by first | rfl | decide | assumption) ?_
        refine k _ _ (fun Q' k' => ?_)
        refine wp_iload_n (pc := 0) dX12_proves_0 (by first | rfl | assumption | (repeat first | assumption | rfl | refine aG_n ?_ rfl rfl)) ?_
        refine wp_i2l (pc := 1) dX12_proves_1 ?_
        refine wp_lconst (pc := 2) (v := 0) dX12_proves_2 (by decide) ?_
        refine wp_ldc2 (pc := 3) dX12_proves_3 cl_12_347 ?_
        refine wp_cS (pc := 6) dX12_proves_6 lk_12_133 rfl rfl rfl (c_X12_in (fun _ => aK_i ?_) (fun q => absurd (by rw [w_int]; exact c0) q))
        refine wp_if_eq (pc := 9) (tgt := 42) dX12_proves_9 rfl (fun q => absurd q (by decide)) (fun _ => ?_)
        refine wp_iload_n (pc := 12) dX12_proves_12 (by first | rfl | assumption | (repeat first | assumption | rfl | refine aG_n ?_ rfl rfl)) ?_
        refine wp_cS (pc := 13) dX12_proves_13 lk_12_354 rfl rfl rfl (c_X12_isSum (fun _ => aK_i ?_) (fun q => absurd c1 q))
        refine wp_if_eq (pc := 16) (tgt := 42) dX12_proves_16 rfl (fun q => absurd q (by decide)) (fun _ => ?_)
        refine wp_iload_n (pc := 19) dX12_proves_19 (by first | rfl | assumption | (repeat first | assumption | rfl | refine aG_n ?_ rfl rfl)) ?_
        refine wp_cS (pc := 20) dX12_proves_20 lk_12_354 rfl rfl rfl (c_X12_isSum (fun q => absurd q c2) (fun _ => aK_i ?_))
        refine wp_if_eq (pc := 23) (tgt := 42) dX12_proves_23 rfl (fun _ => ?_) (fun q => absurd q (by decide))
        refine wp_iconst (pc := 42) (v := -1) dX12_proves_42 (by decide) ?_
        refine wp_ireturn (pc := 43) dX12_proves_43 rfl (by first | rfl | decide | assumption) ?_
        exact k' _ hI
    · skip
      refine wp_iload_n (pc := 0) dX11_proves_0 (by first | rfl | assumption | (repeat first | assumption | rfl | refine aG_n ?_ rfl rfl)) ?_
      refine wp_iconst (pc := 1) (v := 0) dX11_proves_1 (by decide) ?_
      refine wp_bipush (pc := 2) (v := 7) dX11_proves_2 (by decide) ?_
      refine wp_cS (pc := 4) dX11_proves_4 lk_11_112 rfl rfl rfl (c_X11_isWithin (fun _ => aK_i ?_) (fun q => absurd c0 q))
      refine wp_if_eq (pc := 7) (tgt := 40) dX11_proves_7 rfl (fun q => absurd q (by decide)) (fun _ => ?_)
      refine wp_iload_n (pc := 10) dX11_proves_10 (by first | rfl | assumption | (repeat first | assumption | rfl | refine aG_n ?_ rfl rfl)) ?_
      refine wp_cS (pc := 11) dX11_proves_11 lk_11_355 rfl rfl rfl (c_X11_isSum (fun q => absurd q c1) (fun _ => aK_i ?_))
      refine wp_if_eq (pc := 14) (tgt := 40) dX11_proves_14 rfl (fun _ => ?_) (fun q => absurd q (by decide))
      refine wp_iconst (pc := 40) (v := -1) dX11_proves_40 (by decide) ?_
      refine wp_ireturn (pc := 41) dX11_proves_41 rfl (by first | rfl | decide | assumption) ?_
      refine k _ _ (fun Q' k' => ?_)
      refine wp_iload_n (pc := 0) dX12_proves_0 (by first | rfl | assumption | (repeat first | assumption | rfl | refine aG_n ?_ rfl rfl)) ?_
      refine wp_i2l (pc := 1) dX12_proves_1 ?_
      refine wp_lconst (pc := 2) (v := 0) dX12_proves_2 (by decide) ?_
      refine wp_ldc2 (pc := 3) dX12_proves_3 cl_12_347 ?_
      refine wp_cS (pc := 6) dX12_proves_6 lk_12_133 rfl rfl rfl (c_X12_in (fun _ => aK_i ?_) (fun q => absurd (by rw [w_int]; exact c0) q))
      refine wp_if_eq (pc := 9) (tgt := 42) dX12_proves_9 rfl (fun q => absurd q (by decide)) (fun _ => ?_)
      refine wp_iload_n (pc := 12) dX12_proves_12 (by first | rfl | assumption | (repeat first | assumption | rfl | refine aG_n ?_ rfl rfl)) ?_
      refine wp_cS (pc := 13) dX12_proves_13 lk_12_354 rfl rfl rfl (c_X12_isSum (fun q => absurd q c1) (fun _ => aK_i ?_))
      refine wp_if_eq (pc := 16) (tgt := 42) dX12_proves_16 rfl (fun _ => ?_) (fun q => absurd q (by decide))
      refine wp_iconst (pc := 42) (v := -1) dX12_proves_42 (by decide) ?_
      refine wp_ireturn (pc := 43) dX12_proves_43 rfl (by first | rfl | decide | assumption) ?_
      exact k' _ hI
  · skip
    refine wp_iload_n (pc := 0) dX11_proves_0 (by first | rfl | assumption | (repeat first | assumption | rfl | refine aG_n ?_ rfl rfl)) ?_
    refine wp_iconst (pc := 1) (v := 0) dX11_proves_1 (by decide) ?_
    refine wp_bipush (pc := 2) (v := 7) dX11_proves_2 (by decide) ?_
    refine wp_cS (pc := 4) dX11_proves_4 lk_11_112 rfl rfl rfl (c_X11_isWithin (fun q => absurd q c0) (fun _ => aK_i ?_))
    refine wp_if_eq (pc := 7) (tgt := 40) dX11_proves_7 rfl (fun _ => ?_) (fun q => absurd q (by decide))
    refine wp_iconst (pc := 40) (v := -1) dX11_proves_40 (by decide) ?_
    refine wp_ireturn (pc := 41) dX11_proves_41 rfl (by first | rfl | decide | assumption) ?_
    refine k _ _ (fun Q' k' => ?_)
    refine wp_iload_n (pc := 0) dX12_proves_0 (by first | rfl | assumption | (repeat first | assumption | rfl | refine aG_n ?_ rfl rfl)) ?_
    refine wp_i2l (pc := 1) dX12_proves_1 ?_
    refine wp_lconst (pc := 2) (v := 0) dX12_proves_2 (by decide) ?_
    refine wp_ldc2 (pc := 3) dX12_proves_3 cl_12_347 ?_
    refine wp_cS (pc := 6) dX12_proves_6 lk_12_133 rfl rfl rfl (c_X12_in (fun q => absurd q (by rw [w_int]; exact c0)) (fun _ => aK_i ?_))
    refine wp_if_eq (pc := 9) (tgt := 42) dX12_proves_9 rfl (fun _ => ?_) (fun q => absurd q (by decide))
    refine wp_iconst (pc := 42) (v := -1) dX12_proves_42 (by decide) ?_
    refine wp_ireturn (pc := 43) dX12_proves_43 rfl (by first | rfl | decide | assumption) ?_
    exact k' _ hI

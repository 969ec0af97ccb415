def inR (v : Int32) (lo hi : Int) : Prop := lo ≤ v.toInt ∧ v.toInt ≤ hi
section SMALL
variable {X : aX} {μ : Mm} {Q : Option Value → Mm → Prop}
/-- BargainHall.isWithin -/
theorem c_X11_isWithin {v lo hi : Int32} (kt : inR v lo.toInt hi.toInt → Q (some (.int 1)) μ) (kf : ¬ inR v lo.toInt hi.toInt → Q (some (.int 0)) μ) : WP X mX11_isWithin 0 (lv_args 0 [.int v, .int lo, .int hi]) [] μ Q := by
  refine wp_iload_n (pc := 0) dX11_isWithin_0 (by first | rfl | assumption | (repeat first | assumption | rfl | refine aG_n ?_ rfl rfl)) ?_
  refine wp_iload_n (pc := 1) dX11_isWithin_1 (by first | rfl | assumption | (repeat first | assumption | rfl | refine aG_n ?_ rfl rfl)) ?_
  refine wp_icmp_lt (pc := 2) (tgt := 14) dX11_isWithin_2 rfl (fun c2_1 => ?_) (fun c2_1 => ?_)
  · refine wp_iconst (pc := 14) (v := 0) dX11_isWithin_14 (by decide) ?_
    refine wp_ireturn (pc := 15) dX11_isWithin_15 rfl (by first | rfl | decide | assumption) ?_
    exact kf (by clear kt kf; simp only [i_lt, i_le, inR] at *; omega)
  · refine wp_iload_n (pc := 5) dX11_isWithin_5 (by first | rfl | assumption | (repeat first | assumption | rfl | refine aG_n ?_ rfl rfl)) ?_
    refine wp_iload_n (pc := 6) dX11_isWithin_6 (by first | rfl | assumption | (repeat first | assumption | rfl | refine aG_n ?_ rfl rfl)) ?_
    refine wp_icmp_gt (pc := 7) (tgt := 14) dX11_isWithin_7 rfl (fun c7_2 => ?_) (fun c7_2 => ?_)
    · refine wp_iconst (pc := 14) (v := 0) dX11_isWithin_14 (by decide) ?_
      refine wp_ireturn (pc := 15) dX11_isWithin_15 rfl (by first | rfl | decide | assumption) ?_
      exact kf (by clear kt kf; simp only [i_lt, i_le, inR] at *; omega)
    · refine wp_iconst (pc := 10) (v := 1) dX11_isWithin_10 (by decide) ?_
      refine wp_goto (pc := 11) (tgt := 15) dX11_isWithin_11 rfl ?_
      refine wp_ireturn (pc := 15) dX11_isWithin_15 rfl (by first | rfl | decide | assumption) ?_
      exact kt (by clear kt kf; simp only [i_lt, i_le, inR] at *; omega)
theorem c_X12_in {v lo hi : Int64} (kt : (lo.toInt ≤ v.toInt ∧ v.toInt ≤ hi.toInt) → Q (some (.int 1)) μ) (kf : ¬ (lo.toInt ≤ v.toInt ∧ v.toInt ≤ hi.toInt) → Q (some (.int 0)) μ) : WP X mX12_in 0 (lv_args 0 [.long v, .long lo, .long hi]) [] μ Q := by
  refine wp_lload_n (pc := 0) dX12_in_0 (by first | rfl | assumption | (repeat first | assumption | rfl | refine aG_n ?_ rfl rfl)) ?_
  refine wp_lload_n (pc := 1) dX12_in_1 (by first | rfl | assumption | (repeat first | assumption | rfl | refine aG_n ?_ rfl rfl)) ?_
  refine wp_lcmp (pc := 2) dX12_in_2 ?_
  refine wp_if_lt (pc := 3) (tgt := 17) dX12_in_3 rfl (fun c3_1 => ?_) (fun c3_1 => ?_)
  · refine wp_iconst (pc := 17) (v := 0) dX12_in_17 (by decide) ?_
    refine wp_ireturn (pc := 18) dX12_in_18 rfl (by first | rfl | decide | assumption) ?_
    exact kf (by clear kt kf; simp only [lg_cmp_lt, lg_cmp_gt, l_lt] at *; omega)
  · refine wp_lload_n (pc := 6) dX12_in_6 (by first | rfl | assumption | (repeat first | assumption | rfl | refine aG_n ?_ rfl rfl)) ?_
    refine wp_lload (pc := 7) dX12_in_7 (by first | rfl | assumption | (repeat first | assumption | rfl | refine aG_n ?_ rfl rfl)) ?_
    refine wp_lcmp (pc := 9) dX12_in_9 ?_
    refine wp_if_gt (pc := 10) (tgt := 17) dX12_in_10 rfl (fun c10_2 => ?_) (fun c10_2 => ?_)
    · refine wp_iconst (pc := 17) (v := 0) dX12_in_17 (by decide) ?_
      refine wp_ireturn (pc := 18) dX12_in_18 rfl (by first | rfl | decide | assumption) ?_
      exact kf (by clear kt kf; simp only [lg_cmp_lt, lg_cmp_gt, l_lt] at *; omega)
    · refine wp_iconst (pc := 13) (v := 1) dX12_in_13 (by decide) ?_
      refine wp_goto (pc := 14) (tgt := 18) dX12_in_14 rfl ?_
      refine wp_ireturn (pc := 18) dX12_in_18 rfl (by first | rfl | decide | assumption) ?_
      exact kt (by clear kt kf; simp only [lg_cmp_lt, lg_cmp_gt, l_lt] at *; omega)
theorem c_X11_isHouse {v : Int32} (kt : inR v (0) 3 → Q (some (.int 1)) μ) (kf : ¬ inR v (0) 3 → Q (some (.int 0)) μ) : WP X mX11_isHouse 0 (lv_args 0 [.int v]) [] μ Q := by
  refine wp_iload_n (pc := 0) dX11_isHouse_0 (by first | rfl | assumption | (repeat first | assumption | rfl | refine aG_n ?_ rfl rfl)) ?_
  refine wp_iconst (pc := 1) (v := 0) dX11_isHouse_1 (by decide) ?_
  refine wp_iconst (pc := 2) (v := 3) dX11_isHouse_2 (by decide) ?_
  refine wp_cS (pc := 3) dX11_isHouse_3 lk_11_112 rfl rfl rfl (c_X11_isWithin (fun c3_1 => aK_i ?_) (fun c3_1 => aK_i ?_))
  · refine wp_ireturn (pc := 6) dX11_isHouse_6 rfl (by first | rfl | decide | assumption) ?_
    exact kt ‹_›
  · refine wp_ireturn (pc := 6) dX11_isHouse_6 rfl (by first | rfl | decide | assumption) ?_
    exact kf ‹_›
theorem c_X11_isThing {v : Int32} (kt : inR v (0) 5 → Q (some (.int 1)) μ) (kf : ¬ inR v (0) 5 → Q (some (.int 0)) μ) : WP X mX11_isThing 0 (lv_args 0 [.int v]) [] μ Q := by
  refine wp_iload_n (pc := 0) dX11_isThing_0 (by first | rfl | assumption | (repeat first | assumption | rfl | refine aG_n ?_ rfl rfl)) ?_
  refine wp_iconst (pc := 1) (v := 0) dX11_isThing_1 (by decide) ?_
  refine wp_iconst (pc := 2) (v := 5) dX11_isThing_2 (by decide) ?_
  refine wp_cS (pc := 3) dX11_isThing_3 lk_11_112 rfl rfl rfl (c_X11_isWithin (fun c3_1 => aK_i ?_) (fun c3_1 => aK_i ?_))
  · refine wp_ireturn (pc := 6) dX11_isThing_6 rfl (by first | rfl | decide | assumption) ?_
    exact kt ‹_›
  · refine wp_ireturn (pc := 6) dX11_isThing_6 rfl (by first | rfl | decide | assumption) ?_
    exact kf ‹_›
theorem c_X11_isSet {v : Int32} (kt : inR v (0) 63 → Q (some (.int 1)) μ) (kf : ¬ inR v (0) 63 → Q (some (.int 0)) μ) : WP X mX11_isSet 0 (lv_args 0 [.int v]) [] μ Q := by
  refine wp_iload_n (pc := 0) dX11_isSet_0 (by first | rfl | assumption | (repeat first | assumption | rfl | refine aG_n ?_ rfl rfl)) ?_
  refine wp_iconst (pc := 1) (v := 0) dX11_isSet_1 (by decide) ?_
  refine wp_bipush (pc := 2) (v := 63) dX11_isSet_2 (by decide) ?_
  refine wp_cS (pc := 4) dX11_isSet_4 lk_11_112 rfl rfl rfl (c_X11_isWithin (fun c4_1 => aK_i ?_) (fun c4_1 => aK_i ?_))
  · refine wp_ireturn (pc := 7) dX11_isSet_7 rfl (by first | rfl | decide | assumption) ?_
    exact kt ‹_›
  · refine wp_ireturn (pc := 7) dX11_isSet_7 rfl (by first | rfl | decide | assumption) ?_
    exact kf ‹_›
theorem c_X11_isPrice {v : Int32} (kt : inR v (-999) 999 → Q (some (.int 1)) μ) (kf : ¬ inR v (-999) 999 → Q (some (.int 0)) μ) : WP X mX11_isPrice 0 (lv_args 0 [.int v]) [] μ Q := by
  refine wp_iload_n (pc := 0) dX11_isPrice_0 (by first | rfl | assumption | (repeat first | assumption | rfl | refine aG_n ?_ rfl rfl)) ?_
  refine wp_sipush (pc := 1) (v := -999) dX11_isPrice_1 (by decide) ?_
  refine wp_sipush (pc := 4) (v := 999) dX11_isPrice_4 (by decide) ?_
  refine wp_cS (pc := 7) dX11_isPrice_7 lk_11_112 rfl rfl rfl (c_X11_isWithin (fun c7_1 => aK_i ?_) (fun c7_1 => aK_i ?_))
  · refine wp_ireturn (pc := 10) dX11_isPrice_10 rfl (by first | rfl | decide | assumption) ?_
    exact kt ‹_›
  · refine wp_ireturn (pc := 10) dX11_isPrice_10 rfl (by first | rfl | decide | assumption) ?_
    exact kf ‹_›
theorem c_X11_isHour {v : Int32} (kt : inR v (0) 9999 → Q (some (.int 1)) μ) (kf : ¬ inR v (0) 9999 → Q (some (.int 0)) μ) : WP X mX11_isHour 0 (lv_args 0 [.int v]) [] μ Q := by
  refine wp_iload_n (pc := 0) dX11_isHour_0 (by first | rfl | assumption | (repeat first | assumption | rfl | refine aG_n ?_ rfl rfl)) ?_
  refine wp_iconst (pc := 1) (v := 0) dX11_isHour_1 (by decide) ?_
  refine wp_sipush (pc := 2) (v := 9999) dX11_isHour_2 (by decide) ?_
  refine wp_cS (pc := 5) dX11_isHour_5 lk_11_112 rfl rfl rfl (c_X11_isWithin (fun c5_1 => aK_i ?_) (fun c5_1 => aK_i ?_))
  · refine wp_ireturn (pc := 8) dX11_isHour_8 rfl (by first | rfl | decide | assumption) ?_
    exact kt ‹_›
  · refine wp_ireturn (pc := 8) dX11_isHour_8 rfl (by first | rfl | decide | assumption) ?_
    exact kf ‹_›
theorem c_X11_isEvent {v : Int32} (kt : inR v (0) 9 → Q (some (.int 1)) μ) (kf : ¬ inR v (0) 9 → Q (some (.int 0)) μ) : WP X mX11_isEvent 0 (lv_args 0 [.int v]) [] μ Q := by
  refine wp_iload_n (pc := 0) dX11_isEvent_0 (by first | rfl | assumption | (repeat first | assumption | rfl | refine aG_n ?_ rfl rfl)) ?_
  refine wp_iconst (pc := 1) (v := 0) dX11_isEvent_1 (by decide) ?_
  refine wp_bipush (pc := 2) (v := 9) dX11_isEvent_2 (by decide) ?_
  refine wp_cS (pc := 4) dX11_isEvent_4 lk_11_112 rfl rfl rfl (c_X11_isWithin (fun c4_1 => aK_i ?_) (fun c4_1 => aK_i ?_))
  · refine wp_ireturn (pc := 7) dX11_isEvent_7 rfl (by first | rfl | decide | assumption) ?_
    exact kt ‹_›
  · refine wp_ireturn (pc := 7) dX11_isEvent_7 rfl (by first | rfl | decide | assumption) ?_
    exact kf ‹_›
theorem c_X11_isSum {v : Int32} (kt : inR v (0) 9972 → Q (some (.int 1)) μ) (kf : ¬ inR v (0) 9972 → Q (some (.int 0)) μ) : WP X mX11_isSum 0 (lv_args 0 [.int v]) [] μ Q := by
  refine wp_iload_n (pc := 0) dX11_isSum_0 (by first | rfl | assumption | (repeat first | assumption | rfl | refine aG_n ?_ rfl rfl)) ?_
  refine wp_iconst (pc := 1) (v := 0) dX11_isSum_1 (by decide) ?_
  refine wp_sipush (pc := 2) (v := 9972) dX11_isSum_2 (by decide) ?_
  refine wp_cS (pc := 5) dX11_isSum_5 lk_11_112 rfl rfl rfl (c_X11_isWithin (fun c5_1 => aK_i ?_) (fun c5_1 => aK_i ?_))
  · refine wp_ireturn (pc := 8) dX11_isSum_8 rfl (by first | rfl | decide | assumption) ?_
    exact kt ‹_›
  · refine wp_ireturn (pc := 8) dX11_isSum_8 rfl (by first | rfl | decide | assumption) ?_
    exact kf ‹_›
theorem c_X11_isSheet {v : Int32} (kt : inR v (0) 3 → Q (some (.int 1)) μ) (kf : ¬ inR v (0) 3 → Q (some (.int 0)) μ) : WP X mX11_isSheet 0 (lv_args 0 [.int v]) [] μ Q := by
  refine wp_iload_n (pc := 0) dX11_isSheet_0 (by first | rfl | assumption | (repeat first | assumption | rfl | refine aG_n ?_ rfl rfl)) ?_
  refine wp_iconst (pc := 1) (v := 0) dX11_isSheet_1 (by decide) ?_
  refine wp_iconst (pc := 2) (v := 3) dX11_isSheet_2 (by decide) ?_
  refine wp_cS (pc := 3) dX11_isSheet_3 lk_11_112 rfl rfl rfl (c_X11_isWithin (fun c3_1 => aK_i ?_) (fun c3_1 => aK_i ?_))
  · refine wp_ireturn (pc := 6) dX11_isSheet_6 rfl (by first | rfl | decide | assumption) ?_
    exact kt ‹_›
  · refine wp_ireturn (pc := 6) dX11_isSheet_6 rfl (by first | rfl | decide | assumption) ?_
    exact kf ‹_›
theorem c_X11_isLane {v : Int32} (kt : inR v (0) 2 → Q (some (.int 1)) μ) (kf : ¬ inR v (0) 2 → Q (some (.int 0)) μ) : WP X mX11_isLane 0 (lv_args 0 [.int v]) [] μ Q := by
  refine wp_iload_n (pc := 0) dX11_isLane_0 (by first | rfl | assumption | (repeat first | assumption | rfl | refine aG_n ?_ rfl rfl)) ?_
  refine wp_iconst (pc := 1) (v := 0) dX11_isLane_1 (by decide) ?_
  refine wp_iconst (pc := 2) (v := 2) dX11_isLane_2 (by decide) ?_
  refine wp_cS (pc := 3) dX11_isLane_3 lk_11_112 rfl rfl rfl (c_X11_isWithin (fun c3_1 => aK_i ?_) (fun c3_1 => aK_i ?_))
  · refine wp_ireturn (pc := 6) dX11_isLane_6 rfl (by first | rfl | decide | assumption) ?_
    exact kt ‹_›
  · refine wp_ireturn (pc := 6) dX11_isLane_6 rfl (by first | rfl | decide | assumption) ?_
    exact kf ‹_›
theorem c_X12_isHouse {v : Int32} (kt : inR v (0) 3 → Q (some (.int 1)) μ) (kf : ¬ inR v (0) 3 → Q (some (.int 0)) μ) : WP X mX12_isHouse 0 (lv_args 0 [.int v]) [] μ Q := by
  refine wp_iload_n (pc := 0) dX12_isHouse_0 (by first | rfl | assumption | (repeat first | assumption | rfl | refine aG_n ?_ rfl rfl)) ?_
  refine wp_i2l (pc := 1) dX12_isHouse_1 ?_
  refine wp_lconst (pc := 2) (v := 0) dX12_isHouse_2 (by decide) ?_
  refine wp_ldc2 (pc := 3) dX12_isHouse_3 cl_12_131 ?_
  refine wp_cS (pc := 6) dX12_isHouse_6 lk_12_133 rfl rfl rfl (c_X12_in (fun c6_1 => aK_i ?_) (fun c6_1 => aK_i ?_))
  · refine wp_ireturn (pc := 9) dX12_isHouse_9 rfl (by first | rfl | decide | assumption) ?_
    exact kt (by clear kt kf; simp only [inR, w_int] at *; assumption)
  · refine wp_ireturn (pc := 9) dX12_isHouse_9 rfl (by first | rfl | decide | assumption) ?_
    exact kf (by clear kt kf; simp only [inR, w_int] at *; assumption)
theorem c_X12_isSet {v : Int32} (kt : inR v (0) 63 → Q (some (.int 1)) μ) (kf : ¬ inR v (0) 63 → Q (some (.int 0)) μ) : WP X mX12_isSet 0 (lv_args 0 [.int v]) [] μ Q := by
  refine wp_iload_n (pc := 0) dX12_isSet_0 (by first | rfl | assumption | (repeat first | assumption | rfl | refine aG_n ?_ rfl rfl)) ?_
  refine wp_i2l (pc := 1) dX12_isSet_1 ?_
  refine wp_lconst (pc := 2) (v := 0) dX12_isSet_2 (by decide) ?_
  refine wp_ldc2 (pc := 3) dX12_isSet_3 cl_12_195 ?_
  refine wp_cS (pc := 6) dX12_isSet_6 lk_12_133 rfl rfl rfl (c_X12_in (fun c6_1 => aK_i ?_) (fun c6_1 => aK_i ?_))
  · refine wp_ireturn (pc := 9) dX12_isSet_9 rfl (by first | rfl | decide | assumption) ?_
    exact kt (by clear kt kf; simp only [inR, w_int] at *; assumption)
  · refine wp_ireturn (pc := 9) dX12_isSet_9 rfl (by first | rfl | decide | assumption) ?_
    exact kf (by clear kt kf; simp only [inR, w_int] at *; assumption)
theorem c_X12_isHour {v : Int32} (kt : inR v (0) 9999 → Q (some (.int 1)) μ) (kf : ¬ inR v (0) 9999 → Q (some (.int 0)) μ) : WP X mX12_isHour 0 (lv_args 0 [.int v]) [] μ Q := by
  refine wp_iload_n (pc := 0) dX12_isHour_0 (by first | rfl | assumption | (repeat first | assumption | rfl | refine aG_n ?_ rfl rfl)) ?_
  refine wp_i2l (pc := 1) dX12_isHour_1 ?_
  refine wp_lconst (pc := 2) (v := 0) dX12_isHour_2 (by decide) ?_
  refine wp_ldc2 (pc := 3) dX12_isHour_3 cl_12_151 ?_
  refine wp_cS (pc := 6) dX12_isHour_6 lk_12_133 rfl rfl rfl (c_X12_in (fun c6_1 => aK_i ?_) (fun c6_1 => aK_i ?_))
  · refine wp_ireturn (pc := 9) dX12_isHour_9 rfl (by first | rfl | decide | assumption) ?_
    exact kt (by clear kt kf; simp only [inR, w_int] at *; assumption)
  · refine wp_ireturn (pc := 9) dX12_isHour_9 rfl (by first | rfl | decide | assumption) ?_
    exact kf (by clear kt kf; simp only [inR, w_int] at *; assumption)
theorem c_X12_isSum {v : Int32} (kt : inR v (0) 9972 → Q (some (.int 1)) μ) (kf : ¬ inR v (0) 9972 → Q (some (.int 0)) μ) : WP X mX12_isSum 0 (lv_args 0 [.int v]) [] μ Q := by
  refine wp_iload_n (pc := 0) dX12_isSum_0 (by first | rfl | assumption | (repeat first | assumption | rfl | refine aG_n ?_ rfl rfl)) ?_
  refine wp_i2l (pc := 1) dX12_isSum_1 ?_
  refine wp_lconst (pc := 2) (v := 0) dX12_isSum_2 (by decide) ?_
  refine wp_ldc2 (pc := 3) dX12_isSum_3 cl_12_352 ?_
  refine wp_cS (pc := 6) dX12_isSum_6 lk_12_133 rfl rfl rfl (c_X12_in (fun c6_1 => aK_i ?_) (fun c6_1 => aK_i ?_))
  · refine wp_ireturn (pc := 9) dX12_isSum_9 rfl (by first | rfl | decide | assumption) ?_
    exact kt (by clear kt kf; simp only [inR, w_int] at *; assumption)
  · refine wp_ireturn (pc := 9) dX12_isSum_9 rfl (by first | rfl | decide | assumption) ?_
    exact kf (by clear kt kf; simp only [inR, w_int] at *; assumption)
theorem c_X11_isTwoHouses {a b : Int32} (kt : (inR a 0 3 ∧ inR b 0 3 ∧ a ≠ b) → Q (some (.int 1)) μ) (kf : ¬ (inR a 0 3 ∧ inR b 0 3 ∧ a ≠ b) → Q (some (.int 0)) μ) : WP X mX11_isTwoHouses 0 (lv_args 0 [.int a, .int b]) [] μ Q := by
  refine wp_iload_n (pc := 0) dX11_isTwoHouses_0 (by first | rfl | assumption | (repeat first | assumption | rfl | refine aG_n ?_ rfl rfl)) ?_
  refine wp_cS (pc := 1) dX11_isTwoHouses_1 lk_11_101 rfl rfl rfl (c_X11_isHouse (fun c1_1 => aK_i ?_) (fun c1_1 => aK_i ?_))
  · refine wp_if_eq (pc := 4) (tgt := 23) dX11_isTwoHouses_4 rfl (fun q => absurd q (by decide)) (fun _ => ?_)
    refine wp_iload_n (pc := 7) dX11_isTwoHouses_7 (by first | rfl | assumption | (repeat first | assumption | rfl | refine aG_n ?_ rfl rfl)) ?_
    refine wp_cS (pc := 8) dX11_isTwoHouses_8 lk_11_101 rfl rfl rfl (c_X11_isHouse (fun c8_2 => aK_i ?_) (fun c8_2 => aK_i ?_))
    · refine wp_if_eq (pc := 11) (tgt := 23) dX11_isTwoHouses_11 rfl (fun q => absurd q (by decide)) (fun _ => ?_)
      refine wp_iload_n (pc := 14) dX11_isTwoHouses_14 (by first | rfl | assumption | (repeat first | assumption | rfl | refine aG_n ?_ rfl rfl)) ?_
      refine wp_iload_n (pc := 15) dX11_isTwoHouses_15 (by first | rfl | assumption | (repeat first | assumption | rfl | refine aG_n ?_ rfl rfl)) ?_
      refine wp_icmp_eq (pc := 16) (tgt := 23) dX11_isTwoHouses_16 rfl (fun c16_3 => ?_) (fun c16_3 => ?_)
      · refine wp_iconst (pc := 23) (v := 0) dX11_isTwoHouses_23 (by decide) ?_
        refine wp_ireturn (pc := 24) dX11_isTwoHouses_24 rfl (by first | rfl | decide | assumption) ?_
        exact kf (by clear kt kf; rintro ⟨q1, q2, q3⟩; contradiction)
      · refine wp_iconst (pc := 19) (v := 1) dX11_isTwoHouses_19 (by decide) ?_
        refine wp_goto (pc := 20) (tgt := 24) dX11_isTwoHouses_20 rfl ?_
        refine wp_ireturn (pc := 24) dX11_isTwoHouses_24 rfl (by first | rfl | decide | assumption) ?_
        exact kt (by clear kt kf; simp only [ne_eq]; exact ⟨by assumption, by assumption, by assumption⟩)
    · refine wp_if_eq (pc := 11) (tgt := 23) dX11_isTwoHouses_11 rfl (fun _ => ?_) (fun q => absurd q (by decide))
      refine wp_iconst (pc := 23) (v := 0) dX11_isTwoHouses_23 (by decide) ?_
      refine wp_ireturn (pc := 24) dX11_isTwoHouses_24 rfl (by first | rfl | decide | assumption) ?_
      exact kf (by clear kt kf; rintro ⟨q1, q2, q3⟩; contradiction)
  · refine wp_if_eq (pc := 4) (tgt := 23) dX11_isTwoHouses_4 rfl (fun _ => ?_) (fun q => absurd q (by decide))
    refine wp_iconst (pc := 23) (v := 0) dX11_isTwoHouses_23 (by decide) ?_
    refine wp_ireturn (pc := 24) dX11_isTwoHouses_24 rfl (by first | rfl | decide | assumption) ?_
    exact kf (by clear kt kf; rintro ⟨q1, q2, q3⟩; contradiction)
theorem c_X11_isDebt {a b c : Int32} (kt : (inR a 0 3 ∧ inR b 0 3 ∧ a ≠ b ∧ inR c 1 999) → Q (some (.int 1)) μ) (kf : ¬ (inR a 0 3 ∧ inR b 0 3 ∧ a ≠ b ∧ inR c 1 999) → Q (some (.int 0)) μ) : WP X mX11_isDebt 0 (lv_args 0 [.int a, .int b, .int c]) [] μ Q := by
  refine wp_iload_n (pc := 0) dX11_isDebt_0 (by first | rfl | assumption | (repeat first | assumption | rfl | refine aG_n ?_ rfl rfl)) ?_
  refine wp_iload_n (pc := 1) dX11_isDebt_1 (by first | rfl | assumption | (repeat first | assumption | rfl | refine aG_n ?_ rfl rfl)) ?_
  refine wp_cS (pc := 2) dX11_isDebt_2 lk_11_183 rfl rfl rfl (c_X11_isTwoHouses (fun c2_1 => aK_i ?_) (fun c2_1 => aK_i ?_))
  · refine wp_if_eq (pc := 5) (tgt := 23) dX11_isDebt_5 rfl (fun q => absurd q (by decide)) (fun _ => ?_)
    refine wp_iload_n (pc := 8) dX11_isDebt_8 (by first | rfl | assumption | (repeat first | assumption | rfl | refine aG_n ?_ rfl rfl)) ?_
    refine wp_iconst (pc := 9) (v := 1) dX11_isDebt_9 (by decide) ?_
    refine wp_sipush (pc := 10) (v := 999) dX11_isDebt_10 (by decide) ?_
    refine wp_cS (pc := 13) dX11_isDebt_13 lk_11_112 rfl rfl rfl (c_X11_isWithin (fun c13_2 => aK_i ?_) (fun c13_2 => aK_i ?_))
    · refine wp_if_eq (pc := 16) (tgt := 23) dX11_isDebt_16 rfl (fun q => absurd q (by decide)) (fun _ => ?_)
      refine wp_iconst (pc := 19) (v := 1) dX11_isDebt_19 (by decide) ?_
      refine wp_goto (pc := 20) (tgt := 24) dX11_isDebt_20 rfl ?_
      refine wp_ireturn (pc := 24) dX11_isDebt_24 rfl (by first | rfl | decide | assumption) ?_
      exact kt ⟨‹_ ∧ _ ∧ _›.1, ‹_ ∧ _ ∧ _›.2.1, ‹_ ∧ _ ∧ _›.2.2, ‹inR c _ _›⟩
    · refine wp_if_eq (pc := 16) (tgt := 23) dX11_isDebt_16 rfl (fun _ => ?_) (fun q => absurd q (by decide))
      refine wp_iconst (pc := 23) (v := 0) dX11_isDebt_23 (by decide) ?_
      refine wp_ireturn (pc := 24) dX11_isDebt_24 rfl (by first | rfl | decide | assumption) ?_
      exact kf (by clear kt kf; rintro ⟨q1, q2, q3, q4⟩; first | contradiction | exact absurd (show inR a 0 3 ∧ inR b 0 3 ∧ a ≠ b from ⟨q1, q2, q3⟩) (by assumption))
  · refine wp_if_eq (pc := 5) (tgt := 23) dX11_isDebt_5 rfl (fun _ => ?_) (fun q => absurd q (by decide))
    refine wp_iconst (pc := 23) (v := 0) dX11_isDebt_23 (by decide) ?_
    refine wp_ireturn (pc := 24) dX11_isDebt_24 rfl (by first | rfl | decide | assumption) ?_
    exact kf (by clear kt kf; rintro ⟨q1, q2, q3, q4⟩; first | contradiction | exact absurd (show inR a 0 3 ∧ inR b 0 3 ∧ a ≠ b from ⟨q1, q2, q3⟩) (by assumption))
theorem c_X12_isDebt {a b c : Int32} (kt : (inR a 0 3 ∧ inR b 0 3 ∧ a ≠ b ∧ inR c 1 999) → Q (some (.int 1)) μ) (kf : ¬ (inR a 0 3 ∧ inR b 0 3 ∧ a ≠ b ∧ inR c 1 999) → Q (some (.int 0)) μ) : WP X mX12_isDebt 0 (lv_args 0 [.int a, .int b, .int c]) [] μ Q := by
  refine wp_iload_n (pc := 0) dX12_isDebt_0 (by first | rfl | assumption | (repeat first | assumption | rfl | refine aG_n ?_ rfl rfl)) ?_
  refine wp_cS (pc := 1) dX12_isDebt_1 lk_12_143 rfl rfl rfl (c_X12_isHouse (fun c1_1 => aK_i ?_) (fun c1_1 => aK_i ?_))
  · refine wp_if_eq (pc := 4) (tgt := 35) dX12_isDebt_4 rfl (fun q => absurd q (by decide)) (fun _ => ?_)
    refine wp_iload_n (pc := 7) dX12_isDebt_7 (by first | rfl | assumption | (repeat first | assumption | rfl | refine aG_n ?_ rfl rfl)) ?_
    refine wp_cS (pc := 8) dX12_isDebt_8 lk_12_143 rfl rfl rfl (c_X12_isHouse (fun c8_2 => aK_i ?_) (fun c8_2 => aK_i ?_))
    · refine wp_if_eq (pc := 11) (tgt := 35) dX12_isDebt_11 rfl (fun q => absurd q (by decide)) (fun _ => ?_)
      refine wp_iload_n (pc := 14) dX12_isDebt_14 (by first | rfl | assumption | (repeat first | assumption | rfl | refine aG_n ?_ rfl rfl)) ?_
      refine wp_iload_n (pc := 15) dX12_isDebt_15 (by first | rfl | assumption | (repeat first | assumption | rfl | refine aG_n ?_ rfl rfl)) ?_
      refine wp_icmp_eq (pc := 16) (tgt := 35) dX12_isDebt_16 rfl (fun c16_3 => ?_) (fun c16_3 => ?_)
      · refine wp_iconst (pc := 35) (v := 0) dX12_isDebt_35 (by decide) ?_
        refine wp_ireturn (pc := 36) dX12_isDebt_36 rfl (by first | rfl | decide | assumption) ?_
        exact kf (by clear kt kf; rintro ⟨q1, q2, q3, q4⟩; first | contradiction | (simp only [inR, w_int] at *; contradiction))
      · refine wp_iload_n (pc := 19) dX12_isDebt_19 (by first | rfl | assumption | (repeat first | assumption | rfl | refine aG_n ?_ rfl rfl)) ?_
        refine wp_i2l (pc := 20) dX12_isDebt_20 ?_
        refine wp_lconst (pc := 21) (v := 1) dX12_isDebt_21 (by decide) ?_
        refine wp_ldc2 (pc := 22) dX12_isDebt_22 cl_12_216 ?_
        refine wp_cS (pc := 25) dX12_isDebt_25 lk_12_133 rfl rfl rfl (c_X12_in (fun c25_4 => aK_i ?_) (fun c25_4 => aK_i ?_))
        · refine wp_if_eq (pc := 28) (tgt := 35) dX12_isDebt_28 rfl (fun q => absurd q (by decide)) (fun _ => ?_)
          refine wp_iconst (pc := 31) (v := 1) dX12_isDebt_31 (by decide) ?_
          refine wp_goto (pc := 32) (tgt := 36) dX12_isDebt_32 rfl ?_
          refine wp_ireturn (pc := 36) dX12_isDebt_36 rfl (by first | rfl | decide | assumption) ?_
          exact kt ⟨by assumption, by assumption, by assumption, by clear kt kf; simp only [inR, w_int] at *; assumption⟩
        · refine wp_if_eq (pc := 28) (tgt := 35) dX12_isDebt_28 rfl (fun _ => ?_) (fun q => absurd q (by decide))
          refine wp_iconst (pc := 35) (v := 0) dX12_isDebt_35 (by decide) ?_
          refine wp_ireturn (pc := 36) dX12_isDebt_36 rfl (by first | rfl | decide | assumption) ?_
          exact kf (by clear kt kf; rintro ⟨q1, q2, q3, q4⟩; first | contradiction | (simp only [inR, w_int] at *; contradiction))
    · refine wp_if_eq (pc := 11) (tgt := 35) dX12_isDebt_11 rfl (fun _ => ?_) (fun q => absurd q (by decide))
      refine wp_iconst (pc := 35) (v := 0) dX12_isDebt_35 (by decide) ?_
      refine wp_ireturn (pc := 36) dX12_isDebt_36 rfl (by first | rfl | decide | assumption) ?_
      exact kf (by clear kt kf; rintro ⟨q1, q2, q3, q4⟩; first | contradiction | (simp only [inR, w_int] at *; contradiction))
  · refine wp_if_eq (pc := 4) (tgt := 35) dX12_isDebt_4 rfl (fun _ => ?_) (fun q => absurd q (by decide))
    refine wp_iconst (pc := 35) (v := 0) dX12_isDebt_35 (by decide) ?_
    refine wp_ireturn (pc := 36) dX12_isDebt_36 rfl (by first | rfl | decide | assumption) ?_
    exact kf (by clear kt kf; rintro ⟨q1, q2, q3, q4⟩; first | contradiction | (simp only [inR, w_int] at *; contradiction))
theorem c_X12_isSheet {s l : Int32} (kt : (inR s 0 3 ∧ inR l 0 2) → Q (some (.int 1)) μ) (kf : ¬ (inR s 0 3 ∧ inR l 0 2) → Q (some (.int 0)) μ) : WP X mX12_isSheet 0 (lv_args 0 [.int s, .int l]) [] μ Q := by
  refine wp_iload_n (pc := 0) dX12_isSheet_0 (by first | rfl | assumption | (repeat first | assumption | rfl | refine aG_n ?_ rfl rfl)) ?_
  refine wp_i2l (pc := 1) dX12_isSheet_1 ?_
  refine wp_lconst (pc := 2) (v := 0) dX12_isSheet_2 (by decide) ?_
  refine wp_ldc2 (pc := 3) dX12_isSheet_3 cl_12_131 ?_
  refine wp_cS (pc := 6) dX12_isSheet_6 lk_12_133 rfl rfl rfl (c_X12_in (fun c6_1 => aK_i ?_) (fun c6_1 => aK_i ?_))
  · refine wp_if_eq (pc := 9) (tgt := 28) dX12_isSheet_9 rfl (fun q => absurd q (by decide)) (fun _ => ?_)
    refine wp_iload_n (pc := 12) dX12_isSheet_12 (by first | rfl | assumption | (repeat first | assumption | rfl | refine aG_n ?_ rfl rfl)) ?_
    refine wp_i2l (pc := 13) dX12_isSheet_13 ?_
    refine wp_lconst (pc := 14) (v := 0) dX12_isSheet_14 (by decide) ?_
    refine wp_ldc2 (pc := 15) dX12_isSheet_15 cl_12_212 ?_
    refine wp_cS (pc := 18) dX12_isSheet_18 lk_12_133 rfl rfl rfl (c_X12_in (fun c18_2 => aK_i ?_) (fun c18_2 => aK_i ?_))
    · refine wp_if_eq (pc := 21) (tgt := 28) dX12_isSheet_21 rfl (fun q => absurd q (by decide)) (fun _ => ?_)
      refine wp_iconst (pc := 24) (v := 1) dX12_isSheet_24 (by decide) ?_
      refine wp_goto (pc := 25) (tgt := 29) dX12_isSheet_25 rfl ?_
      refine wp_ireturn (pc := 29) dX12_isSheet_29 rfl (by first | rfl | decide | assumption) ?_
      exact kt ⟨by clear kt kf; simp only [inR, w_int] at *; assumption, by clear kt kf; simp only [inR, w_int] at *; assumption⟩
    · refine wp_if_eq (pc := 21) (tgt := 28) dX12_isSheet_21 rfl (fun _ => ?_) (fun q => absurd q (by decide))
      refine wp_iconst (pc := 28) (v := 0) dX12_isSheet_28 (by decide) ?_
      refine wp_ireturn (pc := 29) dX12_isSheet_29 rfl (by first | rfl | decide | assumption) ?_
      exact kf (by clear kt kf; rintro ⟨q1, q2⟩; simp only [inR, w_int] at *; contradiction)
  · refine wp_if_eq (pc := 9) (tgt := 28) dX12_isSheet_9 rfl (fun _ => ?_) (fun q => absurd q (by decide))
    refine wp_iconst (pc := 28) (v := 0) dX12_isSheet_28 (by decide) ?_
    refine wp_ireturn (pc := 29) dX12_isSheet_29 rfl (by first | rfl | decide | assumption) ?_
    exact kf (by clear kt kf; rintro ⟨q1, q2⟩; simp only [inR, w_int] at *; contradiction)
theorem c_X7_isOpen (kt : μ.1 73 0 = 1 → Q (some (.int 1)) μ) (kf : ¬ μ.1 73 0 = 1 → Q (some (.int 0)) μ) : WP X mX7_isOpen 0 (lv_args 0 [.ref 73]) [] μ Q := by
  refine wp_aload_n (pc := 0) dX7_isOpen_0 (by first | rfl | assumption | (repeat first | assumption | rfl | refine aG_n ?_ rfl rfl)) ?_
  refine wp_getI (pc := 1) dX7_isOpen_1 fl_7_11 (by first | rfl | assumption | exact sh_house (by omega) | exact sh_wish (by omega) | exact sh_wor (by omega) | exact sh_bar (by omega) | exact sh_term (by omega) | exact sh_sheet (by omega) | exact sh_items (by omega) | exact sh_sums (by omega)) rfl ?_
  refine wp_iconst (pc := 4) (v := 1) dX7_isOpen_4 (by decide) ?_
  refine wp_icmp_ne (pc := 5) (tgt := 12) dX7_isOpen_5 rfl (fun c5_1 => ?_) (fun c5_1 => ?_)
  · refine wp_iconst (pc := 12) (v := 0) dX7_isOpen_12 (by decide) ?_
    refine wp_ireturn (pc := 13) dX7_isOpen_13 rfl (by first | rfl | decide | assumption) ?_
    exact kf ‹_›
  · refine wp_iconst (pc := 8) (v := 1) dX7_isOpen_8 (by decide) ?_
    refine wp_goto (pc := 9) (tgt := 13) dX7_isOpen_9 rfl ?_
    refine wp_ireturn (pc := 13) dX7_isOpen_13 rfl (by first | rfl | decide | assumption) ?_
    exact kt ‹_›
theorem c_X12_isTalking (kt : μ.1 86 15 = 1 → Q (some (.int 1)) μ) (kf : ¬ μ.1 86 15 = 1 → Q (some (.int 0)) μ) : WP X mX12_isTalking 0 (lv_args 0 [.ref 86]) [] μ Q := by
  refine wp_aload_n (pc := 0) dX12_isTalking_0 (by first | rfl | assumption | (repeat first | assumption | rfl | refine aG_n ?_ rfl rfl)) ?_
  refine wp_getI (pc := 1) dX12_isTalking_1 fl_12_137 (by first | rfl | assumption | exact sh_house (by omega) | exact sh_wish (by omega) | exact sh_wor (by omega) | exact sh_bar (by omega) | exact sh_term (by omega) | exact sh_sheet (by omega) | exact sh_items (by omega) | exact sh_sums (by omega)) rfl ?_
  refine wp_iconst (pc := 4) (v := 1) dX12_isTalking_4 (by decide) ?_
  refine wp_icmp_ne (pc := 5) (tgt := 12) dX12_isTalking_5 rfl (fun c5_1 => ?_) (fun c5_1 => ?_)
  · refine wp_iconst (pc := 12) (v := 0) dX12_isTalking_12 (by decide) ?_
    refine wp_ireturn (pc := 13) dX12_isTalking_13 rfl (by first | rfl | decide | assumption) ?_
    exact kf ‹_›
  · refine wp_iconst (pc := 8) (v := 1) dX12_isTalking_8 (by decide) ?_
    refine wp_goto (pc := 9) (tgt := 13) dX12_isTalking_9 rfl ?_
    refine wp_ireturn (pc := 13) dX12_isTalking_13 rfl (by first | rfl | decide | assumption) ?_
    exact kt ‹_›
end SMALL

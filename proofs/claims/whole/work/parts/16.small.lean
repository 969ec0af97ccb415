section SMALL
variable {X : aX} {μ : Mm} {Q : Option Value → Mm → Prop}
/-- BargainHall.isWithin -/
theorem c_X11_isWithin {v lo hi : Int32} (kt : (lo ≤ v ∧ v ≤ hi) → Q (some (.int 1)) μ) (kf : ¬ (lo ≤ v ∧ v ≤ hi) → Q (some (.int 0)) μ) : WP X mX11_isWithin 0 (lv_args 0 [.int v, .int lo, .int hi]) [] μ Q := by
  refine wp_iload_n (pc := 0) dX11_isWithin_0 (by first | rfl | assumption | (repeat first | assumption | rfl | refine aG_n ?_ rfl rfl)) ?_
  refine wp_iload_n (pc := 1) dX11_isWithin_1 (by first | rfl | assumption | (repeat first | assumption | rfl | refine aG_n ?_ rfl rfl)) ?_
  refine wp_icmp_lt (pc := 2) (tgt := 14) dX11_isWithin_2 rfl (fun c2_1 => ?_) (fun c2_1 => ?_)
  · refine wp_iconst (pc := 14) (v := 0) dX11_isWithin_14 (by decide) ?_
    refine wp_ireturn (pc := 15) dX11_isWithin_15 rfl (by first | rfl | decide | assumption) ?_
    exact kf (by simp only [i_lt, i_le] at *; omega)
  · refine wp_iload_n (pc := 5) dX11_isWithin_5 (by first | rfl | assumption | (repeat first | assumption | rfl | refine aG_n ?_ rfl rfl)) ?_
    refine wp_iload_n (pc := 6) dX11_isWithin_6 (by first | rfl | assumption | (repeat first | assumption | rfl | refine aG_n ?_ rfl rfl)) ?_
    refine wp_icmp_gt (pc := 7) (tgt := 14) dX11_isWithin_7 rfl (fun c7_2 => ?_) (fun c7_2 => ?_)
    · refine wp_iconst (pc := 14) (v := 0) dX11_isWithin_14 (by decide) ?_
      refine wp_ireturn (pc := 15) dX11_isWithin_15 rfl (by first | rfl | decide | assumption) ?_
      exact kf (by simp only [i_lt, i_le] at *; omega)
    · refine wp_iconst (pc := 10) (v := 1) dX11_isWithin_10 (by decide) ?_
      refine wp_goto (pc := 11) (tgt := 15) dX11_isWithin_11 rfl ?_
      refine wp_ireturn (pc := 15) dX11_isWithin_15 rfl (by first | rfl | decide | assumption) ?_
      exact kt (by simp only [i_lt, i_le] at *; omega)
theorem c_X12_in {v lo hi : Int64} (kt : (lo.toInt ≤ v.toInt ∧ v.toInt ≤ hi.toInt) → Q (some (.int 1)) μ) (kf : ¬ (lo.toInt ≤ v.toInt ∧ v.toInt ≤ hi.toInt) → Q (some (.int 0)) μ) : WP X mX12_in 0 (lv_args 0 [.long v, .long lo, .long hi]) [] μ Q := by
  refine wp_lload_n (pc := 0) dX12_in_0 (by first | rfl | assumption | (repeat first | assumption | rfl | refine aG_n ?_ rfl rfl)) ?_
  refine wp_lload_n (pc := 1) dX12_in_1 (by first | rfl | assumption | (repeat first | assumption | rfl | refine aG_n ?_ rfl rfl)) ?_
  refine wp_lcmp (pc := 2) dX12_in_2 ?_
  refine wp_if_lt (pc := 3) (tgt := 17) dX12_in_3 rfl (fun c3_1 => ?_) (fun c3_1 => ?_)
  · refine wp_iconst (pc := 17) (v := 0) dX12_in_17 (by decide) ?_
    refine wp_ireturn (pc := 18) dX12_in_18 rfl (by first | rfl | decide | assumption) ?_
    exact kf (by simp only [lg_cmp_lt, lg_cmp_gt, l_lt] at *; omega)
  · refine wp_lload_n (pc := 6) dX12_in_6 (by first | rfl | assumption | (repeat first | assumption | rfl | refine aG_n ?_ rfl rfl)) ?_
    refine wp_lload (pc := 7) dX12_in_7 (by first | rfl | assumption | (repeat first | assumption | rfl | refine aG_n ?_ rfl rfl)) ?_
    refine wp_lcmp (pc := 9) dX12_in_9 ?_
    refine wp_if_gt (pc := 10) (tgt := 17) dX12_in_10 rfl (fun c10_2 => ?_) (fun c10_2 => ?_)
    · refine wp_iconst (pc := 17) (v := 0) dX12_in_17 (by decide) ?_
      refine wp_ireturn (pc := 18) dX12_in_18 rfl (by first | rfl | decide | assumption) ?_
      exact kf (by simp only [lg_cmp_lt, lg_cmp_gt, l_lt] at *; omega)
    · refine wp_iconst (pc := 13) (v := 1) dX12_in_13 (by decide) ?_
      refine wp_goto (pc := 14) (tgt := 18) dX12_in_14 rfl ?_
      refine wp_ireturn (pc := 18) dX12_in_18 rfl (by first | rfl | decide | assumption) ?_
      exact kt (by simp only [lg_cmp_lt, lg_cmp_gt, l_lt] at *; omega)
theorem c_X11_isHouse {v : Int32} (kt : vp_in v 4 → Q (some (.int 1)) μ) (kf : ¬ vp_in v 4 → Q (some (.int 0)) μ) : WP X mX11_isHouse 0 (lv_args 0 [.int v]) [] μ Q := by
  refine wp_iload_n (pc := 0) dX11_isHouse_0 (by first | rfl | assumption | (repeat first | assumption | rfl | refine aG_n ?_ rfl rfl)) ?_
  refine wp_iconst (pc := 1) (v := 0) dX11_isHouse_1 (by decide) ?_
  refine wp_iconst (pc := 2) (v := 3) dX11_isHouse_2 (by decide) ?_
  refine wp_cS (pc := 3) dX11_isHouse_3 lk_11_112 rfl rfl rfl (c_X11_isWithin (fun c3_1 => aK_i ?_) (fun c3_1 => aK_i ?_))
  · refine wp_ireturn (pc := 6) dX11_isHouse_6 rfl (by first | rfl | decide | assumption) ?_
    exact kt (by simp [vp_in_iff, i_le] at *; omega)
  · refine wp_ireturn (pc := 6) dX11_isHouse_6 rfl (by first | rfl | decide | assumption) ?_
    exact kf (by simp [vp_in_iff, i_le] at *; omega)
end SMALL

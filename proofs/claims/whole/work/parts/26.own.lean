section OWN
variable {X : aX} {μ : Mm} {Q : Option Value → Mm → Prop} {t v : Nat}
theorem c_X11_hasBit {x : Int32} (hx : x = nI v) (hv : v < 64) (ht : t < 6) (kt : v.testBit t = true → Q (some (.int 1)) μ) (kf : ¬ v.testBit t = true → Q (some (.int 0)) μ) : WP X mX11_hasBit 0 (lv_args 0 [.int x, .int (nI t)]) [] μ Q := by
  subst hx
  rw [← bit_i v hv t ht] at kt kf
  refine wp_iload_n (pc := 0) dX11_hasBit_0 (by first | rfl | assumption | (repeat first | assumption | rfl | refine aG_n ?_ rfl rfl)) ?_
  refine wp_iload_n (pc := 1) dX11_hasBit_1 (by first | rfl | assumption | (repeat first | assumption | rfl | refine aG_n ?_ rfl rfl)) ?_
  refine wp_ishr (pc := 2) dX11_hasBit_2 ?_
  refine wp_iconst (pc := 3) (v := 1) dX11_hasBit_3 (by decide) ?_
  refine wp_iand (pc := 4) dX11_hasBit_4 ?_
  refine wp_iconst (pc := 5) (v := 1) dX11_hasBit_5 (by decide) ?_
  refine wp_icmp_ne (pc := 6) (tgt := 13) dX11_hasBit_6 rfl (fun c6_1 => ?_) (fun c6_1 => ?_)
  · refine wp_iconst (pc := 13) (v := 0) dX11_hasBit_13 (by decide) ?_
    refine wp_ireturn (pc := 14) dX11_hasBit_14 rfl (by first | rfl | decide | assumption) ?_
    exact kf (by assumption)
  · refine wp_iconst (pc := 9) (v := 1) dX11_hasBit_9 (by decide) ?_
    refine wp_goto (pc := 10) (tgt := 14) dX11_hasBit_10 rfl ?_
    refine wp_ireturn (pc := 14) dX11_hasBit_14 rfl (by first | rfl | decide | assumption) ?_
    exact kt (by assumption)
theorem own_bit {i j : Nat} (hO : I_own μ.1) (hi : i < 4) (ht : t < 6) (e : μ.1 87 t = nI j) (hj : j < 4) (kt : j = i → Q (some (.int 1)) μ) (kf : ¬ j = i → Q (some (.int 0)) μ) : WP X mX11_hasBit 0 (lv_args 0 [.int (μ.1 (55 + 4 * i) 0), .int (nI t)]) [] μ Q := by
  have hb : (th μ.1 i).testBit t = true ↔ j = i := by
    rw [tsF_bit _ _ 6 t ht, e, decide_eq_true_eq, nI_eq (by omega) (by omega)]
  exact c_X11_hasBit (hO.2 i hi) (th_lt _ _) ht (fun z => kt (hb.mp z)) (fun z => kf (fun y => z (hb.mpr y)))
theorem c_X11_ownerOf {j : Nat} (hO : I_own μ.1) (ht : t < 6) (e : μ.1 87 t = nI j) (hj : j < 4) (k : Q (some (.int (nI j))) μ) : WP X mX11_ownerOf 0 (lv_args 0 [.ref 0, .int (nI t)]) [] μ Q := by
  refine wp_iconst (pc := 0) (v := 0) dX11_ownerOf_0 (by decide) ?_
  refine wp_istore_n (pc := 1) dX11_ownerOf_1 (by decide) ?_
  refine wp_iconst (pc := 2) (v := 1) dX11_ownerOf_2 (by decide) ?_
  refine wp_istore_n (pc := 3) dX11_ownerOf_3 (by decide) ?_
  refine wp_iload_n (pc := 4) dX11_ownerOf_4 (by first | rfl | assumption | (repeat first | assumption | rfl | refine aG_n ?_ rfl rfl)) ?_
  refine wp_iconst (pc := 5) (v := 4) dX11_ownerOf_5 (by decide) ?_
  refine wp_icmp_ge (pc := 6) (tgt := 33) dX11_ownerOf_6 rfl (fun q => absurd q (by decide)) (fun _ => ?_)
  refine wp_aload_n (pc := 9) dX11_ownerOf_9 (by first | rfl | assumption | (repeat first | assumption | rfl | refine aG_n ?_ rfl rfl)) ?_
  refine wp_getR (pc := 10) dX11_ownerOf_10 fl_11_11 (by first | rfl | assumption | exact sh_house (by omega) | exact sh_wish (by omega) | exact sh_wor (by omega) | exact sh_bar (by omega) | exact sh_term (by omega) | exact sh_sheet (by omega) | exact sh_items (by omega) | exact sh_sums (by omega)) rfl ?_
  refine wp_iload_n (pc := 13) dX11_ownerOf_13 (by first | rfl | assumption | (repeat first | assumption | rfl | refine aG_n ?_ rfl rfl)) ?_
  refine wp_aald (pc := 14) dX11_ownerOf_14 (by first | rfl | assumption | exact sh_house (by omega) | exact sh_wish (by omega) | exact sh_wor (by omega) | exact sh_bar (by omega) | exact sh_term (by omega) | exact sh_sheet (by omega) | exact sh_items (by omega) | exact sh_sums (by omega)) (by first | exact vp_in_nI (by omega) (by decide) | exact vp_in_nI ‹_› (by decide) | assumption | decide | exact aIn_eq (by decide)) (by decide) rfl ?_
  refine wp_getI (pc := 15) dX11_ownerOf_15 fl_11_71 (by first | rfl | assumption | exact sh_house (by omega) | exact sh_wish (by omega) | exact sh_wor (by omega) | exact sh_bar (by omega) | exact sh_term (by omega) | exact sh_sheet (by omega) | exact sh_items (by omega) | exact sh_sums (by omega)) rfl ?_
  refine wp_iload_n (pc := 18) dX11_ownerOf_18 (by first | rfl | assumption | (repeat first | assumption | rfl | refine aG_n ?_ rfl rfl)) ?_
  refine wp_cS (pc := 19) dX11_ownerOf_19 lk_11_392 rfl rfl rfl (own_bit (i := 1) hO (by decide) ht e hj (fun c19_1 => aK_i ?_) (fun c19_1 => aK_i ?_))
  · refine wp_if_eq (pc := 22) (tgt := 27) dX11_ownerOf_22 rfl (fun q => absurd q (by decide)) (fun _ => ?_)
    refine wp_iload_n (pc := 25) dX11_ownerOf_25 (by first | rfl | assumption | (repeat first | assumption | rfl | refine aG_n ?_ rfl rfl)) ?_
    refine wp_istore_n (pc := 26) dX11_ownerOf_26 (by decide) ?_
    refine wp_iinc (pc := 27) dX11_ownerOf_27 (by decide) (by first | rfl | assumption | (repeat first | assumption | rfl | refine aG_n ?_ rfl rfl)) rfl ?_
    refine wp_goto (pc := 30) (tgt := 4) dX11_ownerOf_30 rfl ?_
    refine wp_iload_n (pc := 4) dX11_ownerOf_4 (by first | rfl | assumption | (repeat first | assumption | rfl | refine aG_n ?_ rfl rfl)) ?_
    refine wp_iconst (pc := 5) (v := 4) dX11_ownerOf_5 (by decide) ?_
    refine wp_icmp_ge (pc := 6) (tgt := 33) dX11_ownerOf_6 rfl (fun q => absurd q (by decide)) (fun _ => ?_)
    refine wp_aload_n (pc := 9) dX11_ownerOf_9 (by first | rfl | assumption | (repeat first | assumption | rfl | refine aG_n ?_ rfl rfl)) ?_
    refine wp_getR (pc := 10) dX11_ownerOf_10 fl_11_11 (by first | rfl | assumption | exact sh_house (by omega) | exact sh_wish (by omega) | exact sh_wor (by omega) | exact sh_bar (by omega) | exact sh_term (by omega) | exact sh_sheet (by omega) | exact sh_items (by omega) | exact sh_sums (by omega)) rfl ?_
    refine wp_iload_n (pc := 13) dX11_ownerOf_13 (by first | rfl | assumption | (repeat first | assumption | rfl | refine aG_n ?_ rfl rfl)) ?_
    refine wp_aald (pc := 14) dX11_ownerOf_14 (by first | rfl | assumption | exact sh_house (by omega) | exact sh_wish (by omega) | exact sh_wor (by omega) | exact sh_bar (by omega) | exact sh_term (by omega) | exact sh_sheet (by omega) | exact sh_items (by omega) | exact sh_sums (by omega)) (by first | exact vp_in_nI (by omega) (by decide) | exact vp_in_nI ‹_› (by decide) | assumption | decide | exact aIn_eq (by decide)) (by decide) rfl ?_
    refine wp_getI (pc := 15) dX11_ownerOf_15 fl_11_71 (by first | rfl | assumption | exact sh_house (by omega) | exact sh_wish (by omega) | exact sh_wor (by omega) | exact sh_bar (by omega) | exact sh_term (by omega) | exact sh_sheet (by omega) | exact sh_items (by omega) | exact sh_sums (by omega)) rfl ?_
    refine wp_iload_n (pc := 18) dX11_ownerOf_18 (by first | rfl | assumption | (repeat first | assumption | rfl | refine aG_n ?_ rfl rfl)) ?_
    refine wp_cS (pc := 19) dX11_ownerOf_19 lk_11_392 rfl rfl rfl (own_bit (i := 2) hO (by decide) ht e hj (fun c19_2 => aK_i ?_) (fun c19_2 => aK_i ?_))
    · refine wp_if_eq (pc := 22) (tgt := 27) dX11_ownerOf_22 rfl (fun q => absurd q (by decide)) (fun _ => ?_)
      refine wp_iload_n (pc := 25) dX11_ownerOf_25 (by first | rfl | assumption | (repeat first | assumption | rfl | refine aG_n ?_ rfl rfl)) ?_
      refine wp_istore_n (pc := 26) dX11_ownerOf_26 (by decide) ?_
      refine wp_iinc (pc := 27) dX11_ownerOf_27 (by decide) (by first | rfl | assumption | (repeat first | assumption | rfl | refine aG_n ?_ rfl rfl)) rfl ?_
      refine wp_goto (pc := 30) (tgt := 4) dX11_ownerOf_30 rfl ?_
      refine wp_iload_n (pc := 4) dX11_ownerOf_4 (by first | rfl | assumption | (repeat first | assumption | rfl | refine aG_n ?_ rfl rfl)) ?_
      refine wp_iconst (pc := 5) (v := 4) dX11_ownerOf_5 (by decide) ?_
      refine wp_icmp_ge (pc := 6) (tgt := 33) dX11_ownerOf_6 rfl (fun q => absurd q (by decide)) (fun _ => ?_)
      refine wp_aload_n (pc := 9) dX11_ownerOf_9 (by first | rfl | assumption | (repeat first | assumption | rfl | refine aG_n ?_ rfl rfl)) ?_
      refine wp_getR (pc := 10) dX11_ownerOf_10 fl_11_11 (by first | rfl | assumption | exact sh_house (by omega) | exact sh_wish (by omega) | exact sh_wor (by omega) | exact sh_bar (by omega) | exact sh_term (by omega) | exact sh_sheet (by omega) | exact sh_items (by omega) | exact sh_sums (by omega)) rfl ?_
      refine wp_iload_n (pc := 13) dX11_ownerOf_13 (by first | rfl | assumption | (repeat first | assumption | rfl | refine aG_n ?_ rfl rfl)) ?_
      refine wp_aald (pc := 14) dX11_ownerOf_14 (by first | rfl | assumption | exact sh_house (by omega) | exact sh_wish (by omega) | exact sh_wor (by omega) | exact sh_bar (by omega) | exact sh_term (by omega) | exact sh_sheet (by omega) | exact sh_items (by omega) | exact sh_sums (by omega)) (by first | exact vp_in_nI (by omega) (by decide) | exact vp_in_nI ‹_› (by decide) | assumption | decide | exact aIn_eq (by decide)) (by decide) rfl ?_
      refine wp_getI (pc := 15) dX11_ownerOf_15 fl_11_71 (by first | rfl | assumption | exact sh_house (by omega) | exact sh_wish (by omega) | exact sh_wor (by omega) | exact sh_bar (by omega) | exact sh_term (by omega) | exact sh_sheet (by omega) | exact sh_items (by omega) | exact sh_sums (by omega)) rfl ?_
      refine wp_iload_n (pc := 18) dX11_ownerOf_18 (by first | rfl | assumption | (repeat first | assumption | rfl | refine aG_n ?_ rfl rfl)) ?_
      refine wp_cS (pc := 19) dX11_ownerOf_19 lk_11_392 rfl rfl rfl (own_bit (i := 3) hO (by decide) ht e hj (fun c19_3 => aK_i ?_) (fun c19_3 => aK_i ?_))
      · refine wp_if_eq (pc := 22) (tgt := 27) dX11_ownerOf_22 rfl (fun q => absurd q (by decide)) (fun _ => ?_)
        refine wp_iload_n (pc := 25) dX11_ownerOf_25 (by first | rfl | assumption | (repeat first | assumption | rfl | refine aG_n ?_ rfl rfl)) ?_
        refine wp_istore_n (pc := 26) dX11_ownerOf_26 (by decide) ?_
        refine wp_iinc (pc := 27) dX11_ownerOf_27 (by decide) (by first | rfl | assumption | (repeat first | assumption | rfl | refine aG_n ?_ rfl rfl)) rfl ?_
        refine wp_goto (pc := 30) (tgt := 4) dX11_ownerOf_30 rfl ?_
        refine wp_iload_n (pc := 4) dX11_ownerOf_4 (by first | rfl | assumption | (repeat first | assumption | rfl | refine aG_n ?_ rfl rfl)) ?_
        refine wp_iconst (pc := 5) (v := 4) dX11_ownerOf_5 (by decide) ?_
        refine wp_icmp_ge (pc := 6) (tgt := 33) dX11_ownerOf_6 rfl (fun _ => ?_) (fun q => absurd q (by decide))
        refine wp_iload_n (pc := 33) dX11_ownerOf_33 (by first | rfl | assumption | (repeat first | assumption | rfl | refine aG_n ?_ rfl rfl)) ?_
        refine wp_ireturn (pc := 34) dX11_ownerOf_34 rfl (by first | rfl | decide | assumption) ?_
        first | (exfalso; omega) | (refine qEq ?_ k; have hz : j = 3 := (by omega); subst hz; rfl) | (refine qEq ?_ k; have hz : j = 2 := (by omega); subst hz; rfl) | (refine qEq ?_ k; have hz : j = 1 := (by omega); subst hz; rfl) | (refine qEq ?_ k; have hz : j = 0 := (by omega); subst hz; rfl)
      · refine wp_if_eq (pc := 22) (tgt := 27) dX11_ownerOf_22 rfl (fun _ => ?_) (fun q => absurd q (by decide))
        refine wp_iinc (pc := 27) dX11_ownerOf_27 (by decide) (by first | rfl | assumption | (repeat first | assumption | rfl | refine aG_n ?_ rfl rfl)) rfl ?_
        refine wp_goto (pc := 30) (tgt := 4) dX11_ownerOf_30 rfl ?_
        refine wp_iload_n (pc := 4) dX11_ownerOf_4 (by first | rfl | assumption | (repeat first | assumption | rfl | refine aG_n ?_ rfl rfl)) ?_
        refine wp_iconst (pc := 5) (v := 4) dX11_ownerOf_5 (by decide) ?_
        refine wp_icmp_ge (pc := 6) (tgt := 33) dX11_ownerOf_6 rfl (fun _ => ?_) (fun q => absurd q (by decide))
        refine wp_iload_n (pc := 33) dX11_ownerOf_33 (by first | rfl | assumption | (repeat first | assumption | rfl | refine aG_n ?_ rfl rfl)) ?_
        refine wp_ireturn (pc := 34) dX11_ownerOf_34 rfl (by first | rfl | decide | assumption) ?_
        first | (exfalso; omega) | (refine qEq ?_ k; have hz : j = 3 := (by omega); subst hz; rfl) | (refine qEq ?_ k; have hz : j = 2 := (by omega); subst hz; rfl) | (refine qEq ?_ k; have hz : j = 1 := (by omega); subst hz; rfl) | (refine qEq ?_ k; have hz : j = 0 := (by omega); subst hz; rfl)
    · refine wp_if_eq (pc := 22) (tgt := 27) dX11_ownerOf_22 rfl (fun _ => ?_) (fun q => absurd q (by decide))
      refine wp_iinc (pc := 27) dX11_ownerOf_27 (by decide) (by first | rfl | assumption | (repeat first | assumption | rfl | refine aG_n ?_ rfl rfl)) rfl ?_
      refine wp_goto (pc := 30) (tgt := 4) dX11_ownerOf_30 rfl ?_
      refine wp_iload_n (pc := 4) dX11_ownerOf_4 (by first | rfl | assumption | (repeat first | assumption | rfl | refine aG_n ?_ rfl rfl)) ?_
      refine wp_iconst (pc := 5) (v := 4) dX11_ownerOf_5 (by decide) ?_
      refine wp_icmp_ge (pc := 6) (tgt := 33) dX11_ownerOf_6 rfl (fun q => absurd q (by decide)) (fun _ => ?_)
      refine wp_aload_n (pc := 9) dX11_ownerOf_9 (by first | rfl | assumption | (repeat first | assumption | rfl | refine aG_n ?_ rfl rfl)) ?_
      refine wp_getR (pc := 10) dX11_ownerOf_10 fl_11_11 (by first | rfl | assumption | exact sh_house (by omega) | exact sh_wish (by omega) | exact sh_wor (by omega) | exact sh_bar (by omega) | exact sh_term (by omega) | exact sh_sheet (by omega) | exact sh_items (by omega) | exact sh_sums (by omega)) rfl ?_
      refine wp_iload_n (pc := 13) dX11_ownerOf_13 (by first | rfl | assumption | (repeat first | assumption | rfl | refine aG_n ?_ rfl rfl)) ?_
      refine wp_aald (pc := 14) dX11_ownerOf_14 (by first | rfl | assumption | exact sh_house (by omega) | exact sh_wish (by omega) | exact sh_wor (by omega) | exact sh_bar (by omega) | exact sh_term (by omega) | exact sh_sheet (by omega) | exact sh_items (by omega) | exact sh_sums (by omega)) (by first | exact vp_in_nI (by omega) (by decide) | exact vp_in_nI ‹_› (by decide) | assumption | decide | exact aIn_eq (by decide)) (by decide) rfl ?_
      refine wp_getI (pc := 15) dX11_ownerOf_15 fl_11_71 (by first | rfl | assumption | exact sh_house (by omega) | exact sh_wish (by omega) | exact sh_wor (by omega) | exact sh_bar (by omega) | exact sh_term (by omega) | exact sh_sheet (by omega) | exact sh_items (by omega) | exact sh_sums (by omega)) rfl ?_
      refine wp_iload_n (pc := 18) dX11_ownerOf_18 (by first | rfl | assumption | (repeat first | assumption | rfl | refine aG_n ?_ rfl rfl)) ?_
      refine wp_cS (pc := 19) dX11_ownerOf_19 lk_11_392 rfl rfl rfl (own_bit (i := 3) hO (by decide) ht e hj (fun c19_4 => aK_i ?_) (fun c19_4 => aK_i ?_))
      · refine wp_if_eq (pc := 22) (tgt := 27) dX11_ownerOf_22 rfl (fun q => absurd q (by decide)) (fun _ => ?_)
        refine wp_iload_n (pc := 25) dX11_ownerOf_25 (by first | rfl | assumption | (repeat first | assumption | rfl | refine aG_n ?_ rfl rfl)) ?_
        refine wp_istore_n (pc := 26) dX11_ownerOf_26 (by decide) ?_
        refine wp_iinc (pc := 27) dX11_ownerOf_27 (by decide) (by first | rfl | assumption | (repeat first | assumption | rfl | refine aG_n ?_ rfl rfl)) rfl ?_
        refine wp_goto (pc := 30) (tgt := 4) dX11_ownerOf_30 rfl ?_
        refine wp_iload_n (pc := 4) dX11_ownerOf_4 (by first | rfl | assumption | (repeat first | assumption | rfl | refine aG_n ?_ rfl rfl)) ?_
        refine wp_iconst (pc := 5) (v := 4) dX11_ownerOf_5 (by decide) ?_
        refine wp_icmp_ge (pc := 6) (tgt := 33) dX11_ownerOf_6 rfl (fun _ => ?_) (fun q => absurd q (by decide))
        refine wp_iload_n (pc := 33) dX11_ownerOf_33 (by first | rfl | assumption | (repeat first | assumption | rfl | refine aG_n ?_ rfl rfl)) ?_
        refine wp_ireturn (pc := 34) dX11_ownerOf_34 rfl (by first | rfl | decide | assumption) ?_
        first | (exfalso; omega) | (refine qEq ?_ k; have hz : j = 3 := (by omega); subst hz; rfl) | (refine qEq ?_ k; have hz : j = 2 := (by omega); subst hz; rfl) | (refine qEq ?_ k; have hz : j = 1 := (by omega); subst hz; rfl) | (refine qEq ?_ k; have hz : j = 0 := (by omega); subst hz; rfl)
      · refine wp_if_eq (pc := 22) (tgt := 27) dX11_ownerOf_22 rfl (fun _ => ?_) (fun q => absurd q (by decide))
        refine wp_iinc (pc := 27) dX11_ownerOf_27 (by decide) (by first | rfl | assumption | (repeat first | assumption | rfl | refine aG_n ?_ rfl rfl)) rfl ?_
        refine wp_goto (pc := 30) (tgt := 4) dX11_ownerOf_30 rfl ?_
        refine wp_iload_n (pc := 4) dX11_ownerOf_4 (by first | rfl | assumption | (repeat first | assumption | rfl | refine aG_n ?_ rfl rfl)) ?_
        refine wp_iconst (pc := 5) (v := 4) dX11_ownerOf_5 (by decide) ?_
        refine wp_icmp_ge (pc := 6) (tgt := 33) dX11_ownerOf_6 rfl (fun _ => ?_) (fun q => absurd q (by decide))
        refine wp_iload_n (pc := 33) dX11_ownerOf_33 (by first | rfl | assumption | (repeat first | assumption | rfl | refine aG_n ?_ rfl rfl)) ?_
        refine wp_ireturn (pc := 34) dX11_ownerOf_34 rfl (by first | rfl | decide | assumption) ?_
        first | (exfalso; omega) | (refine qEq ?_ k; have hz : j = 3 := (by omega); subst hz; rfl) | (refine qEq ?_ k; have hz : j = 2 := (by omega); subst hz; rfl) | (refine qEq ?_ k; have hz : j = 1 := (by omega); subst hz; rfl) | (refine qEq ?_ k; have hz : j = 0 := (by omega); subst hz; rfl)
  · refine wp_if_eq (pc := 22) (tgt := 27) dX11_ownerOf_22 rfl (fun _ => ?_) (fun q => absurd q (by decide))
    refine wp_iinc (pc := 27) dX11_ownerOf_27 (by decide) (by first | rfl | assumption | (repeat first | assumption | rfl | refine aG_n ?_ rfl rfl)) rfl ?_
    refine wp_goto (pc := 30) (tgt := 4) dX11_ownerOf_30 rfl ?_
    refine wp_iload_n (pc := 4) dX11_ownerOf_4 (by first | rfl | assumption | (repeat first | assumption | rfl | refine aG_n ?_ rfl rfl)) ?_
    refine wp_iconst (pc := 5) (v := 4) dX11_ownerOf_5 (by decide) ?_
    refine wp_icmp_ge (pc := 6) (tgt := 33) dX11_ownerOf_6 rfl (fun q => absurd q (by decide)) (fun _ => ?_)
    refine wp_aload_n (pc := 9) dX11_ownerOf_9 (by first | rfl | assumption | (repeat first | assumption | rfl | refine aG_n ?_ rfl rfl)) ?_
    refine wp_getR (pc := 10) dX11_ownerOf_10 fl_11_11 (by first | rfl | assumption | exact sh_house (by omega) | exact sh_wish (by omega) | exact sh_wor (by omega) | exact sh_bar (by omega) | exact sh_term (by omega) | exact sh_sheet (by omega) | exact sh_items (by omega) | exact sh_sums (by omega)) rfl ?_
    refine wp_iload_n (pc := 13) dX11_ownerOf_13 (by first | rfl | assumption | (repeat first | assumption | rfl | refine aG_n ?_ rfl rfl)) ?_
    refine wp_aald (pc := 14) dX11_ownerOf_14 (by first | rfl | assumption | exact sh_house (by omega) | exact sh_wish (by omega) | exact sh_wor (by omega) | exact sh_bar (by omega) | exact sh_term (by omega) | exact sh_sheet (by omega) | exact sh_items (by omega) | exact sh_sums (by omega)) (by first | exact vp_in_nI (by omega) (by decide) | exact vp_in_nI ‹_› (by decide) | assumption | decide | exact aIn_eq (by decide)) (by decide) rfl ?_
    refine wp_getI (pc := 15) dX11_ownerOf_15 fl_11_71 (by first | rfl | assumption | exact sh_house (by omega) | exact sh_wish (by omega) | exact sh_wor (by omega) | exact sh_bar (by omega) | exact sh_term (by omega) | exact sh_sheet (by omega) | exact sh_items (by omega) | exact sh_sums (by omega)) rfl ?_
    refine wp_iload_n (pc := 18) dX11_ownerOf_18 (by first | rfl | assumption | (repeat first | assumption | rfl | refine aG_n ?_ rfl rfl)) ?_
    refine wp_cS (pc := 19) dX11_ownerOf_19 lk_11_392 rfl rfl rfl (own_bit (i := 2) hO (by decide) ht e hj (fun c19_5 => aK_i ?_) (fun c19_5 => aK_i ?_))
    · refine wp_if_eq (pc := 22) (tgt := 27) dX11_ownerOf_22 rfl (fun q => absurd q (by decide)) (fun _ => ?_)
      refine wp_iload_n (pc := 25) dX11_ownerOf_25 (by first | rfl | assumption | (repeat first | assumption | rfl | refine aG_n ?_ rfl rfl)) ?_
      refine wp_istore_n (pc := 26) dX11_ownerOf_26 (by decide) ?_
      refine wp_iinc (pc := 27) dX11_ownerOf_27 (by decide) (by first | rfl | assumption | (repeat first | assumption | rfl | refine aG_n ?_ rfl rfl)) rfl ?_
      refine wp_goto (pc := 30) (tgt := 4) dX11_ownerOf_30 rfl ?_
      refine wp_iload_n (pc := 4) dX11_ownerOf_4 (by first | rfl | assumption | (repeat first | assumption | rfl | refine aG_n ?_ rfl rfl)) ?_
      refine wp_iconst (pc := 5) (v := 4) dX11_ownerOf_5 (by decide) ?_
      refine wp_icmp_ge (pc := 6) (tgt := 33) dX11_ownerOf_6 rfl (fun q => absurd q (by decide)) (fun _ => ?_)
      refine wp_aload_n (pc := 9) dX11_ownerOf_9 (by first | rfl | assumption | (repeat first | assumption | rfl | refine aG_n ?_ rfl rfl)) ?_
      refine wp_getR (pc := 10) dX11_ownerOf_10 fl_11_11 (by first | rfl | assumption | exact sh_house (by omega) | exact sh_wish (by omega) | exact sh_wor (by omega) | exact sh_bar (by omega) | exact sh_term (by omega) | exact sh_sheet (by omega) | exact sh_items (by omega) | exact sh_sums (by omega)) rfl ?_
      refine wp_iload_n (pc := 13) dX11_ownerOf_13 (by first | rfl | assumption | (repeat first | assumption | rfl | refine aG_n ?_ rfl rfl)) ?_
      refine wp_aald (pc := 14) dX11_ownerOf_14 (by first | rfl | assumption | exact sh_house (by omega) | exact sh_wish (by omega) | exact sh_wor (by omega) | exact sh_bar (by omega) | exact sh_term (by omega) | exact sh_sheet (by omega) | exact sh_items (by omega) | exact sh_sums (by omega)) (by first | exact vp_in_nI (by omega) (by decide) | exact vp_in_nI ‹_› (by decide) | assumption | decide | exact aIn_eq (by decide)) (by decide) rfl ?_
      refine wp_getI (pc := 15) dX11_ownerOf_15 fl_11_71 (by first | rfl | assumption | exact sh_house (by omega) | exact sh_wish (by omega) | exact sh_wor (by omega) | exact sh_bar (by omega) | exact sh_term (by omega) | exact sh_sheet (by omega) | exact sh_items (by omega) | exact sh_sums (by omega)) rfl ?_
      refine wp_iload_n (pc := 18) dX11_ownerOf_18 (by first | rfl | assumption | (repeat first | assumption | rfl | refine aG_n ?_ rfl rfl)) ?_
      refine wp_cS (pc := 19) dX11_ownerOf_19 lk_11_392 rfl rfl rfl (own_bit (i := 3) hO (by decide) ht e hj (fun c19_6 => aK_i ?_) (fun c19_6 => aK_i ?_))
      · refine wp_if_eq (pc := 22) (tgt := 27) dX11_ownerOf_22 rfl (fun q => absurd q (by decide)) (fun _ => ?_)
        refine wp_iload_n (pc := 25) dX11_ownerOf_25 (by first | rfl | assumption | (repeat first | assumption | rfl | refine aG_n ?_ rfl rfl)) ?_
        refine wp_istore_n (pc := 26) dX11_ownerOf_26 (by decide) ?_
        refine wp_iinc (pc := 27) dX11_ownerOf_27 (by decide) (by first | rfl | assumption | (repeat first | assumption | rfl | refine aG_n ?_ rfl rfl)) rfl ?_
        refine wp_goto (pc := 30) (tgt := 4) dX11_ownerOf_30 rfl ?_
        refine wp_iload_n (pc := 4) dX11_ownerOf_4 (by first | rfl | assumption | (repeat first | assumption | rfl | refine aG_n ?_ rfl rfl)) ?_
        refine wp_iconst (pc := 5) (v := 4) dX11_ownerOf_5 (by decide) ?_
        refine wp_icmp_ge (pc := 6) (tgt := 33) dX11_ownerOf_6 rfl (fun _ => ?_) (fun q => absurd q (by decide))
        refine wp_iload_n (pc := 33) dX11_ownerOf_33 (by first | rfl | assumption | (repeat first | assumption | rfl | refine aG_n ?_ rfl rfl)) ?_
        refine wp_ireturn (pc := 34) dX11_ownerOf_34 rfl (by first | rfl | decide | assumption) ?_
        first | (exfalso; omega) | (refine qEq ?_ k; have hz : j = 3 := (by omega); subst hz; rfl) | (refine qEq ?_ k; have hz : j = 2 := (by omega); subst hz; rfl) | (refine qEq ?_ k; have hz : j = 1 := (by omega); subst hz; rfl) | (refine qEq ?_ k; have hz : j = 0 := (by omega); subst hz; rfl)
      · refine wp_if_eq (pc := 22) (tgt := 27) dX11_ownerOf_22 rfl (fun _ => ?_) (fun q => absurd q (by decide))
        refine wp_iinc (pc := 27) dX11_ownerOf_27 (by decide) (by first | rfl | assumption | (repeat first | assumption | rfl | refine aG_n ?_ rfl rfl)) rfl ?_
        refine wp_goto (pc := 30) (tgt := 4) dX11_ownerOf_30 rfl ?_
        refine wp_iload_n (pc := 4) dX11_ownerOf_4 (by first | rfl | assumption | (repeat first | assumption | rfl | refine aG_n ?_ rfl rfl)) ?_
        refine wp_iconst (pc := 5) (v := 4) dX11_ownerOf_5 (by decide) ?_
        refine wp_icmp_ge (pc := 6) (tgt := 33) dX11_ownerOf_6 rfl (fun _ => ?_) (fun q => absurd q (by decide))
        refine wp_iload_n (pc := 33) dX11_ownerOf_33 (by first | rfl | assumption | (repeat first | assumption | rfl | refine aG_n ?_ rfl rfl)) ?_
        refine wp_ireturn (pc := 34) dX11_ownerOf_34 rfl (by first | rfl | decide | assumption) ?_
        first | (exfalso; omega) | (refine qEq ?_ k; have hz : j = 3 := (by omega); subst hz; rfl) | (refine qEq ?_ k; have hz : j = 2 := (by omega); subst hz; rfl) | (refine qEq ?_ k; have hz : j = 1 := (by omega); subst hz; rfl) | (refine qEq ?_ k; have hz : j = 0 := (by omega); subst hz; rfl)
    · refine wp_if_eq (pc := 22) (tgt := 27) dX11_ownerOf_22 rfl (fun _ => ?_) (fun q => absurd q (by decide))
      refine wp_iinc (pc := 27) dX11_ownerOf_27 (by decide) (by first | rfl | assumption | (repeat first | assumption | rfl | refine aG_n ?_ rfl rfl)) rfl ?_
      refine wp_goto (pc := 30) (tgt := 4) dX11_ownerOf_30 rfl ?_
      refine wp_iload_n (pc := 4) dX11_ownerOf_4 (by first | rfl | assumption | (repeat first | assumption | rfl | refine aG_n ?_ rfl rfl)) ?_
      refine wp_iconst (pc := 5) (v := 4) dX11_ownerOf_5 (by decide) ?_
      refine wp_icmp_ge (pc := 6) (tgt := 33) dX11_ownerOf_6 rfl (fun q => absurd q (by decide)) (fun _ => ?_)
      refine wp_aload_n (pc := 9) dX11_ownerOf_9 (by first | rfl | assumption | (repeat first | assumption | rfl | refine aG_n ?_ rfl rfl)) ?_
      refine wp_getR (pc := 10) dX11_ownerOf_10 fl_11_11 (by first | rfl | assumption | exact sh_house (by omega) | exact sh_wish (by omega) | exact sh_wor (by omega) | exact sh_bar (by omega) | exact sh_term (by omega) | exact sh_sheet (by omega) | exact sh_items (by omega) | exact sh_sums (by omega)) rfl ?_
      refine wp_iload_n (pc := 13) dX11_ownerOf_13 (by first | rfl | assumption | (repeat first | assumption | rfl | refine aG_n ?_ rfl rfl)) ?_
      refine wp_aald (pc := 14) dX11_ownerOf_14 (by first | rfl | assumption | exact sh_house (by omega) | exact sh_wish (by omega) | exact sh_wor (by omega) | exact sh_bar (by omega) | exact sh_term (by omega) | exact sh_sheet (by omega) | exact sh_items (by omega) | exact sh_sums (by omega)) (by first | exact vp_in_nI (by omega) (by decide) | exact vp_in_nI ‹_› (by decide) | assumption | decide | exact aIn_eq (by decide)) (by decide) rfl ?_
      refine wp_getI (pc := 15) dX11_ownerOf_15 fl_11_71 (by first | rfl | assumption | exact sh_house (by omega) | exact sh_wish (by omega) | exact sh_wor (by omega) | exact sh_bar (by omega) | exact sh_term (by omega) | exact sh_sheet (by omega) | exact sh_items (by omega) | exact sh_sums (by omega)) rfl ?_
      refine wp_iload_n (pc := 18) dX11_ownerOf_18 (by first | rfl | assumption | (repeat first | assumption | rfl | refine aG_n ?_ rfl rfl)) ?_
      refine wp_cS (pc := 19) dX11_ownerOf_19 lk_11_392 rfl rfl rfl (own_bit (i := 3) hO (by decide) ht e hj (fun c19_7 => aK_i ?_) (fun c19_7 => aK_i ?_))
      · refine wp_if_eq (pc := 22) (tgt := 27) dX11_ownerOf_22 rfl (fun q => absurd q (by decide)) (fun _ => ?_)
        refine wp_iload_n (pc := 25) dX11_ownerOf_25 (by first | rfl | assumption | (repeat first | assumption | rfl | refine aG_n ?_ rfl rfl)) ?_
        refine wp_istore_n (pc := 26) dX11_ownerOf_26 (by decide) ?_
        refine wp_iinc (pc := 27) dX11_ownerOf_27 (by decide) (by first | rfl | assumption | (repeat first | assumption | rfl | refine aG_n ?_ rfl rfl)) rfl ?_
        refine wp_goto (pc := 30) (tgt := 4) dX11_ownerOf_30 rfl ?_
        refine wp_iload_n (pc := 4) dX11_ownerOf_4 (by first | rfl | assumption | (repeat first | assumption | rfl | refine aG_n ?_ rfl rfl)) ?_
        refine wp_iconst (pc := 5) (v := 4) dX11_ownerOf_5 (by decide) ?_
        refine wp_icmp_ge (pc := 6) (tgt := 33) dX11_ownerOf_6 rfl (fun _ => ?_) (fun q => absurd q (by decide))
        refine wp_iload_n (pc := 33) dX11_ownerOf_33 (by first | rfl | assumption | (repeat first | assumption | rfl | refine aG_n ?_ rfl rfl)) ?_
        refine wp_ireturn (pc := 34) dX11_ownerOf_34 rfl (by first | rfl | decide | assumption) ?_
        first | (exfalso; omega) | (refine qEq ?_ k; have hz : j = 3 := (by omega); subst hz; rfl) | (refine qEq ?_ k; have hz : j = 2 := (by omega); subst hz; rfl) | (refine qEq ?_ k; have hz : j = 1 := (by omega); subst hz; rfl) | (refine qEq ?_ k; have hz : j = 0 := (by omega); subst hz; rfl)
      · refine wp_if_eq (pc := 22) (tgt := 27) dX11_ownerOf_22 rfl (fun _ => ?_) (fun q => absurd q (by decide))
        refine wp_iinc (pc := 27) dX11_ownerOf_27 (by decide) (by first | rfl | assumption | (repeat first | assumption | rfl | refine aG_n ?_ rfl rfl)) rfl ?_
        refine wp_goto (pc := 30) (tgt := 4) dX11_ownerOf_30 rfl ?_
        refine wp_iload_n (pc := 4) dX11_ownerOf_4 (by first | rfl | assumption | (repeat first | assumption | rfl | refine aG_n ?_ rfl rfl)) ?_
        refine wp_iconst (pc := 5) (v := 4) dX11_ownerOf_5 (by decide) ?_
        refine wp_icmp_ge (pc := 6) (tgt := 33) dX11_ownerOf_6 rfl (fun _ => ?_) (fun q => absurd q (by decide))
        refine wp_iload_n (pc := 33) dX11_ownerOf_33 (by first | rfl | assumption | (repeat first | assumption | rfl | refine aG_n ?_ rfl rfl)) ?_
        refine wp_ireturn (pc := 34) dX11_ownerOf_34 rfl (by first | rfl | decide | assumption) ?_
        first | (exfalso; omega) | (refine qEq ?_ k; have hz : j = 3 := (by omega); subst hz; rfl) | (refine qEq ?_ k; have hz : j = 2 := (by omega); subst hz; rfl) | (refine qEq ?_ k; have hz : j = 1 := (by omega); subst hz; rfl) | (refine qEq ?_ k; have hz : j = 0 := (by omega); subst hz; rfl)
end OWN
theorem J_own (t h : Int32) : Jnt mX11_own mX12_own [.int t, .int h] := by
  intro X μ Q hI k
  have hT := hI.2.2.2.2.2.1.1
  by_cases c1 : inR t 0 5
  · by_cases c2 : inR h 0 3
    · by_cases c3 : μ.1 73 0 = 1
      · refine wp_iload_n (pc := 0) dX11_own_0 (by first | rfl | assumption | (repeat first | assumption | rfl | refine aG_n ?_ rfl rfl)) ?_
        refine wp_cS (pc := 1) dX11_own_1 lk_11_97 rfl rfl rfl (c_X11_isThing (fun _ => aK_i ?_) (fun q => absurd c1 q))
        refine wp_if_eq (pc := 4) (tgt := 14) dX11_own_4 rfl (fun q => absurd q (by decide)) (fun _ => ?_)
        refine wp_iload_n (pc := 7) dX11_own_7 (by first | rfl | assumption | (repeat first | assumption | rfl | refine aG_n ?_ rfl rfl)) ?_
        refine wp_cS (pc := 8) dX11_own_8 lk_11_101 rfl rfl rfl (c_X11_isHouse (fun _ => aK_i ?_) (fun q => absurd c2 q))
        refine wp_if_ne (pc := 11) (tgt := 16) dX11_own_11 rfl (fun _ => ?_) (fun q => absurd q (by decide))
        refine wp_aload_n (pc := 16) dX11_own_16 (by first | rfl | assumption | (repeat first | assumption | rfl | refine aG_n ?_ rfl rfl)) ?_
        refine wp_getR (pc := 17) dX11_own_17 fl_11_92 (by first | rfl | assumption | exact sh_house (by omega) | exact sh_wish (by omega) | exact sh_wor (by omega) | exact sh_bar (by omega) | exact sh_term (by omega) | exact sh_sheet (by omega) | exact sh_items (by omega) | exact sh_sums (by omega)) rfl ?_
        refine wp_cV (pc := 20) dX11_own_20 lk_11_104 rfl (by decide) rfl (by first | rfl | assumption | exact sh_house (by omega) | exact sh_wish (by omega) | exact sh_wor (by omega) | exact sh_bar (by omega) | exact sh_term (by omega) | exact sh_sheet (by omega) | exact sh_items (by omega) | exact sh_sums (by omega)) rfl rfl (c_X7_isOpen (fun _ => aK_i ?_) (fun q => absurd c3 q))
        refine wp_if_eq (pc := 23) (tgt := 29) dX11_own_23 rfl (fun q => absurd q (by decide)) (fun _ => ?_)
        refine wp_bipush (pc := 26) (v := -2) dX11_own_26 (by decide) ?_
        refine wp_ireturn (pc := 28) dX11_own_28 rfl (by first | rfl | decide | assumption) ?_
        refine k _ _ (fun Q' k' => ?_)
        refine wp_iload_n (pc := 0) dX12_own_0 (by first | rfl | assumption | (repeat first | assumption | rfl | refine aG_n ?_ rfl rfl)) ?_
        refine wp_i2l (pc := 1) dX12_own_1 ?_
        refine wp_lconst (pc := 2) (v := 0) dX12_own_2 (by decide) ?_
        refine wp_ldc2 (pc := 3) dX12_own_3 cl_12_141 ?_
        refine wp_cS (pc := 6) dX12_own_6 lk_12_133 rfl rfl rfl (c_X12_in (fun _ => aK_i ?_) (fun q => absurd (by rw [w_int]; exact c1) q))
        refine wp_if_eq (pc := 9) (tgt := 19) dX12_own_9 rfl (fun q => absurd q (by decide)) (fun _ => ?_)
        refine wp_iload_n (pc := 12) dX12_own_12 (by first | rfl | assumption | (repeat first | assumption | rfl | refine aG_n ?_ rfl rfl)) ?_
        refine wp_cS (pc := 13) dX12_own_13 lk_12_143 rfl rfl rfl (c_X12_isHouse (fun _ => aK_i ?_) (fun q => absurd c2 q))
        refine wp_if_ne (pc := 16) (tgt := 21) dX12_own_16 rfl (fun _ => ?_) (fun q => absurd q (by decide))
        refine wp_aload_n (pc := 21) dX12_own_21 (by first | rfl | assumption | (repeat first | assumption | rfl | refine aG_n ?_ rfl rfl)) ?_
        refine wp_cV (pc := 22) dX12_own_22 lk_12_147 rfl (by decide) rfl (by first | rfl | assumption | exact sh_house (by omega) | exact sh_wish (by omega) | exact sh_wor (by omega) | exact sh_bar (by omega) | exact sh_term (by omega) | exact sh_sheet (by omega) | exact sh_items (by omega) | exact sh_sums (by omega)) rfl rfl (c_X12_isTalking (fun _ => aK_i ?_) (fun q => absurd (hT ▸ c3) q))
        refine wp_if_eq (pc := 25) (tgt := 31) dX12_own_25 rfl (fun q => absurd q (by decide)) (fun _ => ?_)
        refine wp_bipush (pc := 28) (v := -2) dX12_own_28 (by decide) ?_
        refine wp_ireturn (pc := 30) dX12_own_30 rfl (by first | rfl | decide | assumption) ?_
        exact k' _ hI
      · obtain ⟨q, hq, rfl⟩ := inR_of (n := 5) c1
        obtain ⟨i, hi, rfl⟩ := inR_of (n := 3) c2
        have hq6 : q < 6 := by omega
        have c4 : ¬ μ.1 86 15 = 1 := fun z => c3 (hT.trans z)
        have hO := hI.1
        obtain ⟨b, hb, eb⟩ := hO.1 q hq6
        have cq : (nI q).toNatClampNeg = q := nI_clamp (by omega)
        refine wp_iload_n (pc := 0) dX11_own_0 (by first | rfl | assumption | (repeat first | assumption | rfl | refine aG_n ?_ rfl rfl)) ?_
        refine wp_cS (pc := 1) dX11_own_1 lk_11_97 rfl rfl rfl (c_X11_isThing (fun _ => aK_i ?_) (fun q => absurd c1 q))
        refine wp_if_eq (pc := 4) (tgt := 14) dX11_own_4 rfl (fun q => absurd q (by decide)) (fun _ => ?_)
        refine wp_iload_n (pc := 7) dX11_own_7 (by first | rfl | assumption | (repeat first | assumption | rfl | refine aG_n ?_ rfl rfl)) ?_
        refine wp_cS (pc := 8) dX11_own_8 lk_11_101 rfl rfl rfl (c_X11_isHouse (fun _ => aK_i ?_) (fun q => absurd c2 q))
        refine wp_if_ne (pc := 11) (tgt := 16) dX11_own_11 rfl (fun _ => ?_) (fun q => absurd q (by decide))
        refine wp_aload_n (pc := 16) dX11_own_16 (by first | rfl | assumption | (repeat first | assumption | rfl | refine aG_n ?_ rfl rfl)) ?_
        refine wp_getR (pc := 17) dX11_own_17 fl_11_92 (by first | rfl | assumption | exact sh_house (by omega) | exact sh_wish (by omega) | exact sh_wor (by omega) | exact sh_bar (by omega) | exact sh_term (by omega) | exact sh_sheet (by omega) | exact sh_items (by omega) | exact sh_sums (by omega)) rfl ?_
        refine wp_cV (pc := 20) dX11_own_20 lk_11_104 rfl (by decide) rfl (by first | rfl | assumption | exact sh_house (by omega) | exact sh_wish (by omega) | exact sh_wor (by omega) | exact sh_bar (by omega) | exact sh_term (by omega) | exact sh_sheet (by omega) | exact sh_items (by omega) | exact sh_sums (by omega)) rfl rfl (c_X7_isOpen (fun q => absurd q c3) (fun _ => aK_i ?_))
        refine wp_if_eq (pc := 23) (tgt := 29) dX11_own_23 rfl (fun _ => ?_) (fun q => absurd q (by decide))
        refine wp_aload_n (pc := 29) dX11_own_29 (by first | rfl | assumption | (repeat first | assumption | rfl | refine aG_n ?_ rfl rfl)) ?_
        refine wp_iload_n (pc := 30) dX11_own_30 (by first | rfl | assumption | (repeat first | assumption | rfl | refine aG_n ?_ rfl rfl)) ?_
        refine wp_cV (pc := 31) dX11_own_31 lk_11_108 rfl (by decide) rfl (by first | rfl | assumption | exact sh_house (by omega) | exact sh_wish (by omega) | exact sh_wor (by omega) | exact sh_bar (by omega) | exact sh_term (by omega) | exact sh_sheet (by omega) | exact sh_items (by omega) | exact sh_sums (by omega)) rfl rfl (c_X11_ownerOf hO hq6 eb hb (aK_i ?_))
        refine wp_istore_n (pc := 34) dX11_own_34 (by decide) ?_
        refine wp_aload_n (pc := 35) dX11_own_35 (by first | rfl | assumption | (repeat first | assumption | rfl | refine aG_n ?_ rfl rfl)) ?_
        refine wp_getR (pc := 36) dX11_own_36 fl_11_11 (by first | rfl | assumption | exact sh_house (by omega) | exact sh_wish (by omega) | exact sh_wor (by omega) | exact sh_bar (by omega) | exact sh_term (by omega) | exact sh_sheet (by omega) | exact sh_items (by omega) | exact sh_sums (by omega)) rfl ?_
        refine wp_iload_n (pc := 39) dX11_own_39 (by first | rfl | assumption | (repeat first | assumption | rfl | refine aG_n ?_ rfl rfl)) ?_
        refine wp_aald (pc := 40) dX11_own_40 (by first | rfl | assumption | exact sh_house (by omega) | exact sh_wish (by omega) | exact sh_wor (by omega) | exact sh_bar (by omega) | exact sh_term (by omega) | exact sh_sheet (by omega) | exact sh_items (by omega) | exact sh_sums (by omega)) (vp_in_nI (by omega) (by decide)) (by decide) (el_house (show b < 4 by omega)) ?_
        refine wp_dupr (pc := 41) dX11_own_41 ?_
        refine wp_getI (pc := 42) dX11_own_42 fl_11_71 (by first | rfl | assumption | exact sh_house (by omega) | exact sh_wish (by omega) | exact sh_wor (by omega) | exact sh_bar (by omega) | exact sh_term (by omega) | exact sh_sheet (by omega) | exact sh_items (by omega) | exact sh_sums (by omega)) rfl ?_
        refine wp_iconst (pc := 45) (v := 1) dX11_own_45 (by decide) ?_
        refine wp_iload_n (pc := 46) dX11_own_46 (by first | rfl | assumption | (repeat first | assumption | rfl | refine aG_n ?_ rfl rfl)) ?_
        refine wp_ishl (pc := 47) dX11_own_47 ?_
        refine wp_iconst (pc := 48) (v := -1) dX11_own_48 (by decide) ?_
        refine wp_ixor (pc := 49) dX11_own_49 ?_
        refine wp_iand (pc := 50) dX11_own_50 ?_
        refine wp_putI (pc := 51) dX11_own_51 fl_11_71 (by first | rfl | assumption | exact sh_house (by omega) | exact sh_wish (by omega) | exact sh_wor (by omega) | exact sh_bar (by omega) | exact sh_term (by omega) | exact sh_sheet (by omega) | exact sh_items (by omega) | exact sh_sums (by omega)) rfl rfl rfl ?_
        refine wp_aload_n (pc := 54) dX11_own_54 (by first | rfl | assumption | (repeat first | assumption | rfl | refine aG_n ?_ rfl rfl)) ?_
        refine wp_getR (pc := 55) dX11_own_55 fl_11_11 (by first | rfl | assumption | exact sh_house (by omega) | exact sh_wish (by omega) | exact sh_wor (by omega) | exact sh_bar (by omega) | exact sh_term (by omega) | exact sh_sheet (by omega) | exact sh_items (by omega) | exact sh_sums (by omega)) rfl ?_
        refine wp_iload_n (pc := 58) dX11_own_58 (by first | rfl | assumption | (repeat first | assumption | rfl | refine aG_n ?_ rfl rfl)) ?_
        refine wp_aald (pc := 59) dX11_own_59 (by first | rfl | assumption | exact sh_house (by omega) | exact sh_wish (by omega) | exact sh_wor (by omega) | exact sh_bar (by omega) | exact sh_term (by omega) | exact sh_sheet (by omega) | exact sh_items (by omega) | exact sh_sums (by omega)) (vp_in_nI (by omega) (by decide)) (by decide) (el_house (show i < 4 by omega)) ?_
        refine wp_dupr (pc := 60) dX11_own_60 ?_
        refine wp_getI (pc := 61) dX11_own_61 fl_11_71 (by first | rfl | assumption | exact sh_house (by omega) | exact sh_wish (by omega) | exact sh_wor (by omega) | exact sh_bar (by omega) | exact sh_term (by omega) | exact sh_sheet (by omega) | exact sh_items (by omega) | exact sh_sums (by omega)) rfl ?_
        refine wp_iconst (pc := 64) (v := 1) dX11_own_64 (by decide) ?_
        refine wp_iload_n (pc := 65) dX11_own_65 (by first | rfl | assumption | (repeat first | assumption | rfl | refine aG_n ?_ rfl rfl)) ?_
        refine wp_ishl (pc := 66) dX11_own_66 ?_
        refine wp_ior (pc := 67) dX11_own_67 ?_
        refine wp_putI (pc := 68) dX11_own_68 fl_11_71 (by first | rfl | assumption | exact sh_house (by omega) | exact sh_wish (by omega) | exact sh_wor (by omega) | exact sh_bar (by omega) | exact sh_term (by omega) | exact sh_sheet (by omega) | exact sh_items (by omega) | exact sh_sums (by omega)) rfl rfl rfl ?_
        refine wp_iload_n (pc := 71) dX11_own_71 (by first | rfl | assumption | (repeat first | assumption | rfl | refine aG_n ?_ rfl rfl)) ?_
        refine wp_ireturn (pc := 72) dX11_own_72 rfl (by first | rfl | decide | assumption) ?_
        refine k _ _ (fun Q' k' => ?_)
        generalize hx : μ.1 (55 + 4 * b) 0 &&& ((1 : Int32) <<< (nI q &&& 31) ^^^ -1) = x
        have hxe : x = nI (th μ.1 b &&& (63 ^^^ 2 ^ q)) := by rw [← hx, hO.2 b hb]; exact clr_i _ (th_lt _ _) q hq6
        generalize hy : up2 μ.1 (55 + 4 * b) 0 x (55 + 4 * i) 0 ||| (1 : Int32) <<< (nI q &&& 31) = y
        have hye : y = nI ((if i = b then th μ.1 b &&& (63 ^^^ 2 ^ q) else th μ.1 i) ||| 2 ^ q) := by
          rw [← hy]
          by_cases z : i = b
          · subst z
            rw [up2_at, hxe, if_pos rfl]
            exact set_i _ (Nat.lt_of_le_of_lt Nat.and_le_left (th_lt _ _)) q hq6
          · rw [up2_p (by omega), hO.2 i (by omega), if_neg z]
            exact set_i _ (th_lt _ _) q hq6
        have c5 : ¬ up2 (up2 μ.1 (55 + 4 * b) 0 x) (55 + 4 * i) 0 y 86 15 = 1 := by simp (disch := omega) only [up2_ne]; exact c4
        refine wp_iload_n (pc := 0) dX12_own_0 (by first | rfl | assumption | (repeat first | assumption | rfl | refine aG_n ?_ rfl rfl)) ?_
        refine wp_i2l (pc := 1) dX12_own_1 ?_
        refine wp_lconst (pc := 2) (v := 0) dX12_own_2 (by decide) ?_
        refine wp_ldc2 (pc := 3) dX12_own_3 cl_12_141 ?_
        refine wp_cS (pc := 6) dX12_own_6 lk_12_133 rfl rfl rfl (c_X12_in (fun _ => aK_i ?_) (fun q => absurd (by rw [w_int]; exact c1) q))
        refine wp_if_eq (pc := 9) (tgt := 19) dX12_own_9 rfl (fun q => absurd q (by decide)) (fun _ => ?_)
        refine wp_iload_n (pc := 12) dX12_own_12 (by first | rfl | assumption | (repeat first | assumption | rfl | refine aG_n ?_ rfl rfl)) ?_
        refine wp_cS (pc := 13) dX12_own_13 lk_12_143 rfl rfl rfl (c_X12_isHouse (fun _ => aK_i ?_) (fun q => absurd c2 q))
        refine wp_if_ne (pc := 16) (tgt := 21) dX12_own_16 rfl (fun _ => ?_) (fun q => absurd q (by decide))
        refine wp_aload_n (pc := 21) dX12_own_21 (by first | rfl | assumption | (repeat first | assumption | rfl | refine aG_n ?_ rfl rfl)) ?_
        refine wp_cV (pc := 22) dX12_own_22 lk_12_147 rfl (by decide) rfl (by first | rfl | assumption | exact sh_house (by omega) | exact sh_wish (by omega) | exact sh_wor (by omega) | exact sh_bar (by omega) | exact sh_term (by omega) | exact sh_sheet (by omega) | exact sh_items (by omega) | exact sh_sums (by omega)) rfl rfl (c_X12_isTalking (fun q => absurd q c5) (fun _ => aK_i ?_))
        refine wp_if_eq (pc := 25) (tgt := 31) dX12_own_25 rfl (fun _ => ?_) (fun q => absurd q (by decide))
        refine wp_aload_n (pc := 31) dX12_own_31 (by first | rfl | assumption | (repeat first | assumption | rfl | refine aG_n ?_ rfl rfl)) ?_
        refine wp_getR (pc := 32) dX12_own_32 fl_12_7 (by first | rfl | assumption | exact sh_house (by omega) | exact sh_wish (by omega) | exact sh_wor (by omega) | exact sh_bar (by omega) | exact sh_term (by omega) | exact sh_sheet (by omega) | exact sh_items (by omega) | exact sh_sums (by omega)) rfl ?_
        refine wp_iload_n (pc := 35) dX12_own_35 (by first | rfl | assumption | (repeat first | assumption | rfl | refine aG_n ?_ rfl rfl)) ?_
        refine wp_iald (pc := 36) dX12_own_36 (by first | rfl | assumption | exact sh_house (by omega) | exact sh_wish (by omega) | exact sh_wor (by omega) | exact sh_bar (by omega) | exact sh_term (by omega) | exact sh_sheet (by omega) | exact sh_items (by omega) | exact sh_sums (by omega)) (vp_in_nI (by omega) (by decide)) ?_
        refine wp_istore_n (pc := 37) dX12_own_37 (by decide) ?_
        refine wp_aload_n (pc := 38) dX12_own_38 (by first | rfl | assumption | (repeat first | assumption | rfl | refine aG_n ?_ rfl rfl)) ?_
        refine wp_getR (pc := 39) dX12_own_39 fl_12_7 (by first | rfl | assumption | exact sh_house (by omega) | exact sh_wish (by omega) | exact sh_wor (by omega) | exact sh_bar (by omega) | exact sh_term (by omega) | exact sh_sheet (by omega) | exact sh_items (by omega) | exact sh_sums (by omega)) rfl ?_
        refine wp_iload_n (pc := 42) dX12_own_42 (by first | rfl | assumption | (repeat first | assumption | rfl | refine aG_n ?_ rfl rfl)) ?_
        refine wp_iload_n (pc := 43) dX12_own_43 (by first | rfl | assumption | (repeat first | assumption | rfl | refine aG_n ?_ rfl rfl)) ?_
        refine wp_iast (pc := 44) dX12_own_44 (by first | rfl | assumption | exact sh_house (by omega) | exact sh_wish (by omega) | exact sh_wor (by omega) | exact sh_bar (by omega) | exact sh_term (by omega) | exact sh_sheet (by omega) | exact sh_items (by omega) | exact sh_sums (by omega)) (vp_in_nI (by omega) (by decide)) ?_
        refine wp_iload_n (pc := 45) dX12_own_45 (by first | rfl | assumption | (repeat first | assumption | rfl | refine aG_n ?_ rfl rfl)) ?_
        refine wp_ireturn (pc := 46) dX12_own_46 rfl (by first | rfl | decide | assumption) ?_
        refine qEq ?_ (k' _ ?_)
        · simp (disch := omega) only [cq, up2_ne]; exact eb
        · simp only [cq]
          refine ⟨?_, coin_c (by simp (disch := omega) only [up2_ne, fil_ne]) (fun i9 hi9 => (by simp (disch := omega) only [up2_ne, up2_p, fil_ne, fil_p])) (hI.2.1), lev_c ⟨(by simp (disch := omega) only [up2_ne, fil_ne]), (by simp (disch := omega) only [up2_ne, fil_ne]), (by simp (disch := omega) only [up2_ne, fil_ne])⟩ (fun i9 hi9 => ⟨(by simp (disch := omega) only [up2_ne, up2_p, fil_ne, fil_p]), (by simp (disch := omega) only [up2_ne, up2_p, fil_ne, fil_p]), (by simp (disch := omega) only [up2_ne, up2_p, fil_ne, fil_p])⟩) (hI.2.2.1), wish_c ⟨(by simp (disch := omega) only [up2_ne, fil_ne]), (by simp (disch := omega) only [up2_ne, fil_ne]), (by simp (disch := omega) only [up2_ne, fil_ne]), (by simp (disch := omega) only [up2_ne, fil_ne])⟩ (fun i9 hi9 => ⟨(by simp (disch := omega) only [up2_ne, fil_ne]), (by simp (disch := omega) only [up2_ne, fil_ne]), (by simp (disch := omega) only [up2_ne, fil_ne])⟩) (hI.2.2.2.1), tape_c (by simp (disch := omega) only [up2_ne, up2_p, fil_ne, fil_p]) (by simp (disch := omega) only [up2_ne, up2_p, fil_ne, fil_p]) (by simp (disch := omega) only [up2_ne, fil_ne]) (by simp (disch := omega) only [up2_ne, fil_ne]) (hI.2.2.2.2.1), talk_c ⟨(by simp (disch := omega) only [up2_ne, fil_ne]), (by simp (disch := omega) only [up2_ne, fil_ne]), (by simp (disch := omega) only [up2_ne, fil_ne]), (by simp (disch := omega) only [up2_ne, fil_ne]), (by simp (disch := omega) only [up2_ne, fil_ne])⟩ ⟨(by simp (disch := omega) only [up2_ne, fil_ne]), (by simp (disch := omega) only [up2_ne, fil_ne]), (by simp (disch := omega) only [up2_ne, fil_ne])⟩ (fun j9 hj9 hk9 => (by simp (disch := omega) only [up2_ne, up2_p, fil_ne, fil_p])) (fun o9 => absurd o9 c4) rfl (hI.2.2.2.2.2.1), led_c (by simp (disch := omega) only [up2_ne, up2_p, fil_ne, fil_p]) (by simp (disch := omega) only [up2_ne, up2_p, fil_ne, fil_p]) (fun i9 hi9 => (by simp (disch := omega) only [up2_ne, fil_ne])) (fun c9 hc9 hd9 => (by simp (disch := omega) only [up2_ne, fil_ne])) ⟨(by simp (disch := omega) only [up2_ne, fil_ne]), (by simp (disch := omega) only [up2_ne, fil_ne])⟩ (hI.2.2.2.2.2.2.1), row_c (by simp (disch := omega) only [up2_ne, fil_ne]) (by simp (disch := omega) only [up2_ne, fil_ne]) (hI.2.2.2.2.2.2.2.1), sheet_c ⟨(by simp (disch := omega) only [up2_ne, fil_ne]), (by simp (disch := omega) only [up2_ne, fil_ne]), (by simp (disch := omega) only [up2_ne, fil_ne])⟩ (fun s9 hs9 => ⟨(by simp (disch := omega) only [up2_ne, fil_ne]), (by simp (disch := omega) only [up2_ne, fil_ne])⟩) (hI.2.2.2.2.2.2.2.2.1), grp_c (by simp (disch := omega) only [up2_ne, up2_p, fil_ne, fil_p]) (fun g9 hg9 => (by simp (disch := omega) only [up2_ne, fil_ne])) (fun i9 hi9 => ⟨(by simp (disch := omega) only [up2_ne, fil_ne]), (by simp (disch := omega) only [up2_ne, fil_ne])⟩) (hI.2.2.2.2.2.2.2.2.2)⟩
          have hp : 2 ^ q < 64 := by
            have := Nat.pow_lt_pow_right (a := 2) (by decide) hq6
            omega
          refine ⟨fun u hu => ?_, fun r hr => ?_⟩
          · by_cases z : u = q
            · subst z; exact ⟨i, by omega, up2_at⟩
            · simp (disch := omega) only [up2_ne, up2_p]; exact hO.1 u hu
          · have eO : ∀ u, up2 (up2 (up2 μ.1 (55 + 4 * b) 0 x) (55 + 4 * i) 0 y) 87 q (nI i) 87 u = if u = q then nI i else μ.1 87 u := by
              intro u
              by_cases z : u = q
              · subst z; rw [up2_at, if_pos rfl]
              · rw [if_neg z]; simp (disch := omega) only [up2_ne, up2_p]
            have key : ∃ r', r' < 64 ∧ up2 (up2 (up2 μ.1 (55 + 4 * b) 0 x) (55 + 4 * i) 0 y) 87 q (nI i) (55 + 4 * r) 0 = nI r' ∧ ∀ u, u < 6 → r'.testBit u = decide ((if u = q then nI i else μ.1 87 u) = nI r) := by
              have hbit : ∀ r u, u < 6 → (th μ.1 r).testBit u = decide (μ.1 87 u = nI r) := fun r u hu => tsF_bit _ _ 6 u hu
              have h63 : ∀ u, u < 6 → (63 : Nat).testBit u = true := by decide
              by_cases z1 : r = i
              · subst z1
                refine ⟨(if r = b then th μ.1 b &&& (63 ^^^ 2 ^ q) else th μ.1 r) ||| 2 ^ q, ?_, ?_, ?_⟩
                · refine o64 ?_ hp
                  split
                  · exact Nat.lt_of_le_of_lt Nat.and_le_left (th_lt _ _)
                  · exact th_lt _ _
                · rw [up2_ne (by omega), up2_at, hye]
                · intro u hu
                  rw [Nat.testBit_or, Nat.testBit_two_pow]
                  by_cases z : u = q
                  · subst z; simp
                  · have z' : ¬ q = u := fun y => z y.symm
                    simp only [z, z', if_false, decide_false, Bool.or_false]
                    split
                    · rename_i z5
                      rw [Nat.testBit_and, Nat.testBit_xor, Nat.testBit_two_pow, hbit _ u hu, h63 u hu, z5]
                      simp [z']
                    · exact hbit _ u hu
              · by_cases z2 : r = b
                · subst z2
                  refine ⟨th μ.1 r &&& (63 ^^^ 2 ^ q), Nat.lt_of_le_of_lt Nat.and_le_left (th_lt μ.1 r), ?_, ?_⟩
                  · rw [up2_ne (by omega), up2_ne (by omega), up2_at, hxe]
                  · intro u hu
                    rw [Nat.testBit_and, Nat.testBit_xor, Nat.testBit_two_pow, hbit _ u hu, h63 u hu]
                    by_cases z : u = q
                    · subst z
                      simp [nI_eq (show i < 2 ^ 31 by omega) (show r < 2 ^ 31 by omega), fun y => z1 (Eq.symm y)]
                      exact fun y => z1 y.symm
                    · have z' : ¬ q = u := fun y => z y.symm
                      simp [z, z']
                · refine ⟨th μ.1 r, th_lt _ _, ?_, ?_⟩
                  · simp (disch := omega) only [up2_ne]; exact hO.2 r hr
                  · intro u hu
                    rw [hbit r u hu]
                    by_cases z : u = q
                    · subst z
                      rw [if_pos rfl, eb]
                      simp [nI_eq (show i < 2 ^ 31 by omega) (show r < 2 ^ 31 by omega), nI_eq (show b < 2 ^ 31 by omega) (show r < 2 ^ 31 by omega), fun y => z1 (Eq.symm y), fun y => z2 (Eq.symm y)]
                      omega
                    · rw [if_neg z]
            obtain ⟨r', h1, h2, h3⟩ := key
            refine h2.trans ?_
            congr 1
            exact tsF_uq h1 (fun u hu => by rw [h3 u hu, ← eO u])
    · refine wp_iload_n (pc := 0) dX11_own_0 (by first | rfl | assumption | (repeat first | assumption | rfl | refine aG_n ?_ rfl rfl)) ?_
      refine wp_cS (pc := 1) dX11_own_1 lk_11_97 rfl rfl rfl (c_X11_isThing (fun _ => aK_i ?_) (fun q => absurd c1 q))
      refine wp_if_eq (pc := 4) (tgt := 14) dX11_own_4 rfl (fun q => absurd q (by decide)) (fun _ => ?_)
      refine wp_iload_n (pc := 7) dX11_own_7 (by first | rfl | assumption | (repeat first | assumption | rfl | refine aG_n ?_ rfl rfl)) ?_
      refine wp_cS (pc := 8) dX11_own_8 lk_11_101 rfl rfl rfl (c_X11_isHouse (fun q => absurd q c2) (fun _ => aK_i ?_))
      refine wp_if_ne (pc := 11) (tgt := 16) dX11_own_11 rfl (fun q => absurd q (by decide)) (fun _ => ?_)
      refine wp_iconst (pc := 14) (v := -1) dX11_own_14 (by decide) ?_
      refine wp_ireturn (pc := 15) dX11_own_15 rfl (by first | rfl | decide | assumption) ?_
      refine k _ _ (fun Q' k' => ?_)
      refine wp_iload_n (pc := 0) dX12_own_0 (by first | rfl | assumption | (repeat first | assumption | rfl | refine aG_n ?_ rfl rfl)) ?_
      refine wp_i2l (pc := 1) dX12_own_1 ?_
      refine wp_lconst (pc := 2) (v := 0) dX12_own_2 (by decide) ?_
      refine wp_ldc2 (pc := 3) dX12_own_3 cl_12_141 ?_
      refine wp_cS (pc := 6) dX12_own_6 lk_12_133 rfl rfl rfl (c_X12_in (fun _ => aK_i ?_) (fun q => absurd (by rw [w_int]; exact c1) q))
      refine wp_if_eq (pc := 9) (tgt := 19) dX12_own_9 rfl (fun q => absurd q (by decide)) (fun _ => ?_)
      refine wp_iload_n (pc := 12) dX12_own_12 (by first | rfl | assumption | (repeat first | assumption | rfl | refine aG_n ?_ rfl rfl)) ?_
      refine wp_cS (pc := 13) dX12_own_13 lk_12_143 rfl rfl rfl (c_X12_isHouse (fun q => absurd q c2) (fun _ => aK_i ?_))
      refine wp_if_ne (pc := 16) (tgt := 21) dX12_own_16 rfl (fun q => absurd q (by decide)) (fun _ => ?_)
      refine wp_iconst (pc := 19) (v := -1) dX12_own_19 (by decide) ?_
      refine wp_ireturn (pc := 20) dX12_own_20 rfl (by first | rfl | decide | assumption) ?_
      exact k' _ hI
  · refine wp_iload_n (pc := 0) dX11_own_0 (by first | rfl | assumption | (repeat first | assumption | rfl | refine aG_n ?_ rfl rfl)) ?_
    refine wp_cS (pc := 1) dX11_own_1 lk_11_97 rfl rfl rfl (c_X11_isThing (fun q => absurd q c1) (fun _ => aK_i ?_))
    refine wp_if_eq (pc := 4) (tgt := 14) dX11_own_4 rfl (fun _ => ?_) (fun q => absurd q (by decide))
    refine wp_iconst (pc := 14) (v := -1) dX11_own_14 (by decide) ?_
    refine wp_ireturn (pc := 15) dX11_own_15 rfl (by first | rfl | decide | assumption) ?_
    refine k _ _ (fun Q' k' => ?_)
    refine wp_iload_n (pc := 0) dX12_own_0 (by first | rfl | assumption | (repeat first | assumption | rfl | refine aG_n ?_ rfl rfl)) ?_
    refine wp_i2l (pc := 1) dX12_own_1 ?_
    refine wp_lconst (pc := 2) (v := 0) dX12_own_2 (by decide) ?_
    refine wp_ldc2 (pc := 3) dX12_own_3 cl_12_141 ?_
    refine wp_cS (pc := 6) dX12_own_6 lk_12_133 rfl rfl rfl (c_X12_in (fun q => absurd q (by rw [w_int]; exact c1)) (fun _ => aK_i ?_))
    refine wp_if_eq (pc := 9) (tgt := 19) dX12_own_9 rfl (fun _ => ?_) (fun q => absurd q (by decide))
    refine wp_iconst (pc := 19) (v := -1) dX12_own_19 (by decide) ?_
    refine wp_ireturn (pc := 20) dX12_own_20 rfl (by first | rfl | decide | assumption) ?_
    exact k' _ hI

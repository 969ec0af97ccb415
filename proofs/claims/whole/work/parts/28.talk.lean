def ofW (M : MM) (w : Nat) (i : Int32) : Prop := ∃ q, q < w ∧ i = nI q ∧ isOf M q
def zOf (kd : Int32) (w mo : Nat) : Int32 := if kd = 3 then 2 else if kd = 4 then 3 else if mo ≤ w + 1 then 4 else 1
def addM (M : MM) (w : Nat) (kd st pr z : Int32) : MM := up2 (up2 (up2 (up2 (up2 M 75 w kd) 76 w st) 77 w pr) 73 3 (nI (w + 1))) 73 0 z
def sayM (M : MM) (w : Nat) (kd st pr z : Int32) : MM := up2 (up2 (up2 (up2 (up2 M 100 w kd) 101 w st) 102 w pr) 86 19 (nI (w + 1))) 86 15 z
theorem up2_id {M : MM} {a j : Nat} {v : Int32} (h : M a j = v) : up2 M a j v = M := by
  funext x y
  unfold up2
  split
  · rename_i z; rw [z.1, z.2, h]
  · rfl
theorem z_20 : (20 : Int32).toInt = 20 := by decide
theorem in_le {n : Nat} {x t : Int32} (hn : n < 2 ^ 30) (h : x = nI n) : ((0 : Int64).toInt ≤ t.toInt64.toInt ∧ t.toInt64.toInt ≤ (x - 1).toInt64.toInt) ↔ inT t n := by
  rw [w_int, w_int, h]
  have e : (nI n - 1).toInt = (n : Int) - 1 := by
    rw [show (1 : Int32) = nI 1 from rfl]
    exact pk_sub_toInt hn (by omega)
  rw [e]
  unfold inT
  have : (0 : Int64).toInt = 0 := by decide
  omega
theorem ofW_in {M : MM} {w : Nat} {i : Int32} (hw : w ≤ 20) (h : ofW M w i) : inT i w := by
  obtain ⟨q, a, rfl, -⟩ := h
  unfold inT
  rw [nI_toInt (by omega)]; omega
theorem ofW_q {M : MM} {w q : Nat} (hw : w ≤ 20) (hq : q < w) : ofW M w (nI q) ↔ isOf M q := by
  constructor
  · rintro ⟨q', a, b, c⟩
    rwa [(nI_eq (by omega) (by omega)).mp b]
  · exact fun h => ⟨q, hq, rfl, h⟩
/-- the word ahead of a place -/
theorem ofW_p {M : MM} {w n : Nat} (hw : w ≤ 20) (hn : n ≤ w) : ofW M w (nI n - 1) ↔ 0 < n ∧ isOf M (n - 1) := by
  cases n with
  | zero =>
    constructor
    · intro h
      have := ofW_in hw h
      exact absurd this.1 (by decide)
    · intro h; omega
  | succ m =>
    rw [nI_pred, ofW_q hw (by omega)]
    simp
section TALK
variable {X : aX} {μ : Mm} {Q : Option Value → Mm → Prop} {w n mo : Nat} {i kd st pr : Int32}
theorem c_X7_hasWord (hw : w ≤ 20) (h73 : μ.1 73 3 = nI w) (kt : inT i w → Q (some (.int 1)) μ) (kf : ¬ inT i w → Q (some (.int 0)) μ) : WP X mX7_hasWord 0 (lv_args 0 [.ref 73, .int i]) [] μ Q := by
  have e73 : (μ.1 73 3).toInt = w := by rw [h73]; exact nI_toInt (by omega)
  have z0 := z_0
  have z20 := z_20
  refine wp_iload_n (pc := 0) dX7_hasWord_0 (by first | rfl | assumption | (repeat first | assumption | rfl | refine aG_n ?_ rfl rfl)) ?_
  refine wp_if_lt (pc := 1) (tgt := 22) dX7_hasWord_1 rfl (fun c1_1 => ?_) (fun c1_1 => ?_)
  · refine wp_iconst (pc := 22) (v := 0) dX7_hasWord_22 (by decide) ?_
    refine wp_ireturn (pc := 23) dX7_hasWord_23 rfl (by first | rfl | decide | assumption) ?_
    exact kf (by clear kt kf; simp only [i_lt, i_le, inT] at *; omega)
  · refine wp_iload_n (pc := 4) dX7_hasWord_4 (by first | rfl | assumption | (repeat first | assumption | rfl | refine aG_n ?_ rfl rfl)) ?_
    refine wp_aload_n (pc := 5) dX7_hasWord_5 (by first | rfl | assumption | (repeat first | assumption | rfl | refine aG_n ?_ rfl rfl)) ?_
    refine wp_getI (pc := 6) dX7_hasWord_6 fl_7_38 (by first | rfl | assumption | exact sh_house (by omega) | exact sh_wish (by omega) | exact sh_wor (by omega) | exact sh_bar (by omega) | exact sh_term (by omega) | exact sh_sheet (by omega) | exact sh_items (by omega) | exact sh_sums (by omega)) rfl ?_
    refine wp_icmp_ge (pc := 9) (tgt := 22) dX7_hasWord_9 rfl (fun c9_2 => ?_) (fun c9_2 => ?_)
    · refine wp_iconst (pc := 22) (v := 0) dX7_hasWord_22 (by decide) ?_
      refine wp_ireturn (pc := 23) dX7_hasWord_23 rfl (by first | rfl | decide | assumption) ?_
      exact kf (by clear kt kf; simp only [i_lt, i_le, inT] at *; omega)
    · refine wp_iload_n (pc := 12) dX7_hasWord_12 (by first | rfl | assumption | (repeat first | assumption | rfl | refine aG_n ?_ rfl rfl)) ?_
      refine wp_bipush (pc := 13) (v := 20) dX7_hasWord_13 (by decide) ?_
      refine wp_icmp_ge (pc := 15) (tgt := 22) dX7_hasWord_15 rfl (fun c15_3 => ?_) (fun c15_3 => ?_)
      · refine wp_iconst (pc := 22) (v := 0) dX7_hasWord_22 (by decide) ?_
        refine wp_ireturn (pc := 23) dX7_hasWord_23 rfl (by first | rfl | decide | assumption) ?_
        exact kf (by clear kt kf; simp only [i_lt, i_le, inT] at *; omega)
      · refine wp_iconst (pc := 18) (v := 1) dX7_hasWord_18 (by decide) ?_
        refine wp_goto (pc := 19) (tgt := 23) dX7_hasWord_19 rfl ?_
        refine wp_ireturn (pc := 23) dX7_hasWord_23 rfl (by first | rfl | decide | assumption) ?_
        exact kt (by clear kt kf; simp only [i_lt, i_le, inT] at *; omega)
theorem c_X7_isOffer (hw : w ≤ 20) (h73 : μ.1 73 3 = nI w) (hk : ∀ q, q < 20 → μ.1 75 q = μ.1 100 q) (kt : ofW μ.1 w i → Q (some (.int 1)) μ) (kf : ¬ ofW μ.1 w i → Q (some (.int 0)) μ) : WP X mX7_isOffer 0 (lv_args 0 [.ref 73, .int i]) [] μ Q := by
  by_cases c : inT i w
  · obtain ⟨q, hq, rfl⟩ := inT_of c
    have eq : (nI q).toNatClampNeg = q := nI_clamp (by omega)
    rw [ofW_q hw hq] at kt kf
    unfold isOf at kt kf
    rw [← hk q (by omega), ← eq] at kt kf
    simp only [eq] at kt kf
    refine wp_aload_n (pc := 0) dX7_isOffer_0 (by first | rfl | assumption | (repeat first | assumption | rfl | refine aG_n ?_ rfl rfl)) ?_
    refine wp_iload_n (pc := 1) dX7_isOffer_1 (by first | rfl | assumption | (repeat first | assumption | rfl | refine aG_n ?_ rfl rfl)) ?_
    refine wp_cV (pc := 2) dX7_isOffer_2 lk_7_45 rfl (by decide) rfl (by first | rfl | assumption | exact sh_house (by omega) | exact sh_wish (by omega) | exact sh_wor (by omega) | exact sh_bar (by omega) | exact sh_term (by omega) | exact sh_sheet (by omega) | exact sh_items (by omega) | exact sh_sums (by omega)) rfl rfl (c_X7_hasWord hw h73 (fun _ => aK_i ?_) (fun q => absurd c q))
    refine wp_if_eq (pc := 5) (tgt := 32) dX7_isOffer_5 rfl (fun q => absurd q (by decide)) (fun _ => ?_)
    refine wp_aload_n (pc := 8) dX7_isOffer_8 (by first | rfl | assumption | (repeat first | assumption | rfl | refine aG_n ?_ rfl rfl)) ?_
    refine wp_getR (pc := 9) dX7_isOffer_9 fl_7_18 (by first | rfl | assumption | exact sh_house (by omega) | exact sh_wish (by omega) | exact sh_wor (by omega) | exact sh_bar (by omega) | exact sh_term (by omega) | exact sh_sheet (by omega) | exact sh_items (by omega) | exact sh_sums (by omega)) rfl ?_
    refine wp_iload_n (pc := 12) dX7_isOffer_12 (by first | rfl | assumption | (repeat first | assumption | rfl | refine aG_n ?_ rfl rfl)) ?_
    refine wp_iald (pc := 13) dX7_isOffer_13 (by first | rfl | assumption | exact sh_house (by omega) | exact sh_wish (by omega) | exact sh_wor (by omega) | exact sh_bar (by omega) | exact sh_term (by omega) | exact sh_sheet (by omega) | exact sh_items (by omega) | exact sh_sums (by omega)) (vp_in_nI (by omega) (by decide)) ?_
    refine wp_iconst (pc := 14) (v := 1) dX7_isOffer_14 (by decide) ?_
    refine wp_icmp_eq (pc := 15) (tgt := 28) dX7_isOffer_15 rfl (fun c15_1 => ?_) (fun c15_1 => ?_)
    · refine wp_iconst (pc := 28) (v := 1) dX7_isOffer_28 (by decide) ?_
      refine wp_goto (pc := 29) (tgt := 33) dX7_isOffer_29 rfl ?_
      refine wp_ireturn (pc := 33) dX7_isOffer_33 rfl (by first | rfl | decide | assumption) ?_
      simp only [eq] at *; first | exact kt (Or.inl (by assumption)) | exact kt (Or.inr (by assumption))
    · refine wp_aload_n (pc := 18) dX7_isOffer_18 (by first | rfl | assumption | (repeat first | assumption | rfl | refine aG_n ?_ rfl rfl)) ?_
      refine wp_getR (pc := 19) dX7_isOffer_19 fl_7_18 (by first | rfl | assumption | exact sh_house (by omega) | exact sh_wish (by omega) | exact sh_wor (by omega) | exact sh_bar (by omega) | exact sh_term (by omega) | exact sh_sheet (by omega) | exact sh_items (by omega) | exact sh_sums (by omega)) rfl ?_
      refine wp_iload_n (pc := 22) dX7_isOffer_22 (by first | rfl | assumption | (repeat first | assumption | rfl | refine aG_n ?_ rfl rfl)) ?_
      refine wp_iald (pc := 23) dX7_isOffer_23 (by first | rfl | assumption | exact sh_house (by omega) | exact sh_wish (by omega) | exact sh_wor (by omega) | exact sh_bar (by omega) | exact sh_term (by omega) | exact sh_sheet (by omega) | exact sh_items (by omega) | exact sh_sums (by omega)) (vp_in_nI (by omega) (by decide)) ?_
      refine wp_iconst (pc := 24) (v := 2) dX7_isOffer_24 (by decide) ?_
      refine wp_icmp_ne (pc := 25) (tgt := 32) dX7_isOffer_25 rfl (fun c25_2 => ?_) (fun c25_2 => ?_)
      · refine wp_iconst (pc := 32) (v := 0) dX7_isOffer_32 (by decide) ?_
        refine wp_ireturn (pc := 33) dX7_isOffer_33 rfl (by first | rfl | decide | assumption) ?_
        simp only [eq] at *; exact kf (fun z => z.elim (by assumption) (by assumption))
      · refine wp_iconst (pc := 28) (v := 1) dX7_isOffer_28 (by decide) ?_
        refine wp_goto (pc := 29) (tgt := 33) dX7_isOffer_29 rfl ?_
        refine wp_ireturn (pc := 33) dX7_isOffer_33 rfl (by first | rfl | decide | assumption) ?_
        simp only [eq] at *; first | exact kt (Or.inl (by assumption)) | exact kt (Or.inr (by assumption))
  · refine wp_aload_n (pc := 0) dX7_isOffer_0 (by first | rfl | assumption | (repeat first | assumption | rfl | refine aG_n ?_ rfl rfl)) ?_
    refine wp_iload_n (pc := 1) dX7_isOffer_1 (by first | rfl | assumption | (repeat first | assumption | rfl | refine aG_n ?_ rfl rfl)) ?_
    refine wp_cV (pc := 2) dX7_isOffer_2 lk_7_45 rfl (by decide) rfl (by first | rfl | assumption | exact sh_house (by omega) | exact sh_wish (by omega) | exact sh_wor (by omega) | exact sh_bar (by omega) | exact sh_term (by omega) | exact sh_sheet (by omega) | exact sh_items (by omega) | exact sh_sums (by omega)) rfl rfl (c_X7_hasWord hw h73 (fun q => absurd q c) (fun _ => aK_i ?_))
    refine wp_if_eq (pc := 5) (tgt := 32) dX7_isOffer_5 rfl (fun _ => ?_) (fun q => absurd q (by decide))
    refine wp_iconst (pc := 32) (v := 0) dX7_isOffer_32 (by decide) ?_
    refine wp_ireturn (pc := 33) dX7_isOffer_33 rfl (by first | rfl | decide | assumption) ?_
    exact kf (fun z => c (ofW_in hw z))
theorem c_X12_isOffer (hw : w ≤ 20) (h86 : μ.1 86 19 = nI w) (kt : ofW μ.1 w i → Q (some (.int 1)) μ) (kf : ¬ ofW μ.1 w i → Q (some (.int 0)) μ) : WP X mX12_isOffer 0 (lv_args 0 [.ref 86, .int i]) [] μ Q := by
  by_cases c : inT i w
  · have c' := (in_le (by omega) h86).mpr c
    obtain ⟨q, hq, rfl⟩ := inT_of c
    have eq : (nI q).toNatClampNeg = q := nI_clamp (by omega)
    rw [ofW_q hw hq] at kt kf
    unfold isOf at kt kf
    refine wp_iload_n (pc := 0) dX12_isOffer_0 (by first | rfl | assumption | (repeat first | assumption | rfl | refine aG_n ?_ rfl rfl)) ?_
    refine wp_i2l (pc := 1) dX12_isOffer_1 ?_
    refine wp_lconst (pc := 2) (v := 0) dX12_isOffer_2 (by decide) ?_
    refine wp_aload_n (pc := 3) dX12_isOffer_3 (by first | rfl | assumption | (repeat first | assumption | rfl | refine aG_n ?_ rfl rfl)) ?_
    refine wp_getI (pc := 4) dX12_isOffer_4 fl_12_244 (by first | rfl | assumption | exact sh_house (by omega) | exact sh_wish (by omega) | exact sh_wor (by omega) | exact sh_bar (by omega) | exact sh_term (by omega) | exact sh_sheet (by omega) | exact sh_items (by omega) | exact sh_sums (by omega)) rfl ?_
    refine wp_iconst (pc := 7) (v := 1) dX12_isOffer_7 (by decide) ?_
    refine wp_isub (pc := 8) dX12_isOffer_8 ?_
    refine wp_i2l (pc := 9) dX12_isOffer_9 ?_
    refine wp_cS (pc := 10) dX12_isOffer_10 lk_12_133 rfl rfl rfl (c_X12_in (fun _ => aK_i ?_) (fun q => absurd c' q))
    refine wp_if_eq (pc := 13) (tgt := 40) dX12_isOffer_13 rfl (fun q => absurd q (by decide)) (fun _ => ?_)
    refine wp_aload_n (pc := 16) dX12_isOffer_16 (by first | rfl | assumption | (repeat first | assumption | rfl | refine aG_n ?_ rfl rfl)) ?_
    refine wp_getR (pc := 17) dX12_isOffer_17 fl_12_50 (by first | rfl | assumption | exact sh_house (by omega) | exact sh_wish (by omega) | exact sh_wor (by omega) | exact sh_bar (by omega) | exact sh_term (by omega) | exact sh_sheet (by omega) | exact sh_items (by omega) | exact sh_sums (by omega)) rfl ?_
    refine wp_iload_n (pc := 20) dX12_isOffer_20 (by first | rfl | assumption | (repeat first | assumption | rfl | refine aG_n ?_ rfl rfl)) ?_
    refine wp_iald (pc := 21) dX12_isOffer_21 (by first | rfl | assumption | exact sh_house (by omega) | exact sh_wish (by omega) | exact sh_wor (by omega) | exact sh_bar (by omega) | exact sh_term (by omega) | exact sh_sheet (by omega) | exact sh_items (by omega) | exact sh_sums (by omega)) (vp_in_nI (by omega) (by decide)) ?_
    refine wp_iconst (pc := 22) (v := 1) dX12_isOffer_22 (by decide) ?_
    refine wp_icmp_eq (pc := 23) (tgt := 36) dX12_isOffer_23 rfl (fun c23_1 => ?_) (fun c23_1 => ?_)
    · refine wp_iconst (pc := 36) (v := 1) dX12_isOffer_36 (by decide) ?_
      refine wp_goto (pc := 37) (tgt := 41) dX12_isOffer_37 rfl ?_
      refine wp_ireturn (pc := 41) dX12_isOffer_41 rfl (by first | rfl | decide | assumption) ?_
      simp only [eq] at *; first | exact kt (Or.inl (by assumption)) | exact kt (Or.inr (by assumption))
    · refine wp_aload_n (pc := 26) dX12_isOffer_26 (by first | rfl | assumption | (repeat first | assumption | rfl | refine aG_n ?_ rfl rfl)) ?_
      refine wp_getR (pc := 27) dX12_isOffer_27 fl_12_50 (by first | rfl | assumption | exact sh_house (by omega) | exact sh_wish (by omega) | exact sh_wor (by omega) | exact sh_bar (by omega) | exact sh_term (by omega) | exact sh_sheet (by omega) | exact sh_items (by omega) | exact sh_sums (by omega)) rfl ?_
      refine wp_iload_n (pc := 30) dX12_isOffer_30 (by first | rfl | assumption | (repeat first | assumption | rfl | refine aG_n ?_ rfl rfl)) ?_
      refine wp_iald (pc := 31) dX12_isOffer_31 (by first | rfl | assumption | exact sh_house (by omega) | exact sh_wish (by omega) | exact sh_wor (by omega) | exact sh_bar (by omega) | exact sh_term (by omega) | exact sh_sheet (by omega) | exact sh_items (by omega) | exact sh_sums (by omega)) (vp_in_nI (by omega) (by decide)) ?_
      refine wp_iconst (pc := 32) (v := 2) dX12_isOffer_32 (by decide) ?_
      refine wp_icmp_ne (pc := 33) (tgt := 40) dX12_isOffer_33 rfl (fun c33_2 => ?_) (fun c33_2 => ?_)
      · refine wp_iconst (pc := 40) (v := 0) dX12_isOffer_40 (by decide) ?_
        refine wp_ireturn (pc := 41) dX12_isOffer_41 rfl (by first | rfl | decide | assumption) ?_
        simp only [eq] at *; exact kf (fun z => z.elim (by assumption) (by assumption))
      · refine wp_iconst (pc := 36) (v := 1) dX12_isOffer_36 (by decide) ?_
        refine wp_goto (pc := 37) (tgt := 41) dX12_isOffer_37 rfl ?_
        refine wp_ireturn (pc := 41) dX12_isOffer_41 rfl (by first | rfl | decide | assumption) ?_
        simp only [eq] at *; first | exact kt (Or.inl (by assumption)) | exact kt (Or.inr (by assumption))
  · have c' := fun z => c ((in_le (t := i) (by omega) h86).mp z)
    refine wp_iload_n (pc := 0) dX12_isOffer_0 (by first | rfl | assumption | (repeat first | assumption | rfl | refine aG_n ?_ rfl rfl)) ?_
    refine wp_i2l (pc := 1) dX12_isOffer_1 ?_
    refine wp_lconst (pc := 2) (v := 0) dX12_isOffer_2 (by decide) ?_
    refine wp_aload_n (pc := 3) dX12_isOffer_3 (by first | rfl | assumption | (repeat first | assumption | rfl | refine aG_n ?_ rfl rfl)) ?_
    refine wp_getI (pc := 4) dX12_isOffer_4 fl_12_244 (by first | rfl | assumption | exact sh_house (by omega) | exact sh_wish (by omega) | exact sh_wor (by omega) | exact sh_bar (by omega) | exact sh_term (by omega) | exact sh_sheet (by omega) | exact sh_items (by omega) | exact sh_sums (by omega)) rfl ?_
    refine wp_iconst (pc := 7) (v := 1) dX12_isOffer_7 (by decide) ?_
    refine wp_isub (pc := 8) dX12_isOffer_8 ?_
    refine wp_i2l (pc := 9) dX12_isOffer_9 ?_
    refine wp_cS (pc := 10) dX12_isOffer_10 lk_12_133 rfl rfl rfl (c_X12_in (fun q => absurd q c') (fun _ => aK_i ?_))
    refine wp_if_eq (pc := 13) (tgt := 40) dX12_isOffer_13 rfl (fun _ => ?_) (fun q => absurd q (by decide))
    refine wp_iconst (pc := 40) (v := 0) dX12_isOffer_40 (by decide) ?_
    refine wp_ireturn (pc := 41) dX12_isOffer_41 rfl (by first | rfl | decide | assumption) ?_
    exact kf (fun z => c (ofW_in hw z))
theorem c_X7_setAt (hw : w ≤ 20) (h73 : μ.1 73 3 = nI w) (hn : n < w) (k : Q (some (.int (μ.1 76 n))) μ) : WP X mX7_setAt 0 (lv_args 0 [.ref 73, .int (nI n)]) [] μ Q := by
  have eq : (nI n).toNatClampNeg = n := nI_clamp (by omega)
  have c : inT (nI n) w := by unfold inT; rw [nI_toInt (by omega)]; omega
  refine wp_aload_n (pc := 0) dX7_setAt_0 (by first | rfl | assumption | (repeat first | assumption | rfl | refine aG_n ?_ rfl rfl)) ?_
  refine wp_iload_n (pc := 1) dX7_setAt_1 (by first | rfl | assumption | (repeat first | assumption | rfl | refine aG_n ?_ rfl rfl)) ?_
  refine wp_cV (pc := 2) dX7_setAt_2 lk_7_45 rfl (by decide) rfl (by first | rfl | assumption | exact sh_house (by omega) | exact sh_wish (by omega) | exact sh_wor (by omega) | exact sh_bar (by omega) | exact sh_term (by omega) | exact sh_sheet (by omega) | exact sh_items (by omega) | exact sh_sums (by omega)) rfl rfl (c_X7_hasWord hw h73 (fun _ => aK_i ?_) (fun q => absurd c q))
  refine wp_if_eq (pc := 5) (tgt := 17) dX7_setAt_5 rfl (fun q => absurd q (by decide)) (fun _ => ?_)
  refine wp_aload_n (pc := 8) dX7_setAt_8 (by first | rfl | assumption | (repeat first | assumption | rfl | refine aG_n ?_ rfl rfl)) ?_
  refine wp_getR (pc := 9) dX7_setAt_9 fl_7_22 (by first | rfl | assumption | exact sh_house (by omega) | exact sh_wish (by omega) | exact sh_wor (by omega) | exact sh_bar (by omega) | exact sh_term (by omega) | exact sh_sheet (by omega) | exact sh_items (by omega) | exact sh_sums (by omega)) rfl ?_
  refine wp_iload_n (pc := 12) dX7_setAt_12 (by first | rfl | assumption | (repeat first | assumption | rfl | refine aG_n ?_ rfl rfl)) ?_
  refine wp_iald (pc := 13) dX7_setAt_13 (by first | rfl | assumption | exact sh_house (by omega) | exact sh_wish (by omega) | exact sh_wor (by omega) | exact sh_bar (by omega) | exact sh_term (by omega) | exact sh_sheet (by omega) | exact sh_items (by omega) | exact sh_sums (by omega)) (vp_in_nI (by omega) (by decide)) ?_
  refine wp_goto (pc := 14) (tgt := 18) dX7_setAt_14 rfl ?_
  refine wp_ireturn (pc := 18) dX7_setAt_18 rfl (by first | rfl | decide | assumption) ?_
  rw [eq]; exact k
theorem c_X7_priceAt (hw : w ≤ 20) (h73 : μ.1 73 3 = nI w) (hn : n < w) (k : Q (some (.int (μ.1 77 n))) μ) : WP X mX7_priceAt 0 (lv_args 0 [.ref 73, .int (nI n)]) [] μ Q := by
  have eq : (nI n).toNatClampNeg = n := nI_clamp (by omega)
  have c : inT (nI n) w := by unfold inT; rw [nI_toInt (by omega)]; omega
  refine wp_aload_n (pc := 0) dX7_priceAt_0 (by first | rfl | assumption | (repeat first | assumption | rfl | refine aG_n ?_ rfl rfl)) ?_
  refine wp_iload_n (pc := 1) dX7_priceAt_1 (by first | rfl | assumption | (repeat first | assumption | rfl | refine aG_n ?_ rfl rfl)) ?_
  refine wp_cV (pc := 2) dX7_priceAt_2 lk_7_45 rfl (by decide) rfl (by first | rfl | assumption | exact sh_house (by omega) | exact sh_wish (by omega) | exact sh_wor (by omega) | exact sh_bar (by omega) | exact sh_term (by omega) | exact sh_sheet (by omega) | exact sh_items (by omega) | exact sh_sums (by omega)) rfl rfl (c_X7_hasWord hw h73 (fun _ => aK_i ?_) (fun q => absurd c q))
  refine wp_if_eq (pc := 5) (tgt := 17) dX7_priceAt_5 rfl (fun q => absurd q (by decide)) (fun _ => ?_)
  refine wp_aload_n (pc := 8) dX7_priceAt_8 (by first | rfl | assumption | (repeat first | assumption | rfl | refine aG_n ?_ rfl rfl)) ?_
  refine wp_getR (pc := 9) dX7_priceAt_9 fl_7_25 (by first | rfl | assumption | exact sh_house (by omega) | exact sh_wish (by omega) | exact sh_wor (by omega) | exact sh_bar (by omega) | exact sh_term (by omega) | exact sh_sheet (by omega) | exact sh_items (by omega) | exact sh_sums (by omega)) rfl ?_
  refine wp_iload_n (pc := 12) dX7_priceAt_12 (by first | rfl | assumption | (repeat first | assumption | rfl | refine aG_n ?_ rfl rfl)) ?_
  refine wp_iald (pc := 13) dX7_priceAt_13 (by first | rfl | assumption | exact sh_house (by omega) | exact sh_wish (by omega) | exact sh_wor (by omega) | exact sh_bar (by omega) | exact sh_term (by omega) | exact sh_sheet (by omega) | exact sh_items (by omega) | exact sh_sums (by omega)) (vp_in_nI (by omega) (by decide)) ?_
  refine wp_goto (pc := 14) (tgt := 18) dX7_priceAt_14 rfl ?_
  refine wp_ireturn (pc := 18) dX7_priceAt_18 rfl (by first | rfl | decide | assumption) ?_
  rw [eq]; exact k
theorem c_X7_kindAt (hw : w ≤ 20) (h73 : μ.1 73 3 = nI w) (hn : n < w) (k : Q (some (.int (μ.1 75 n))) μ) : WP X mX7_kindAt 0 (lv_args 0 [.ref 73, .int (nI n)]) [] μ Q := by
  have eq : (nI n).toNatClampNeg = n := nI_clamp (by omega)
  have c : inT (nI n) w := by unfold inT; rw [nI_toInt (by omega)]; omega
  refine wp_aload_n (pc := 0) dX7_kindAt_0 (by first | rfl | assumption | (repeat first | assumption | rfl | refine aG_n ?_ rfl rfl)) ?_
  refine wp_iload_n (pc := 1) dX7_kindAt_1 (by first | rfl | assumption | (repeat first | assumption | rfl | refine aG_n ?_ rfl rfl)) ?_
  refine wp_cV (pc := 2) dX7_kindAt_2 lk_7_45 rfl (by decide) rfl (by first | rfl | assumption | exact sh_house (by omega) | exact sh_wish (by omega) | exact sh_wor (by omega) | exact sh_bar (by omega) | exact sh_term (by omega) | exact sh_sheet (by omega) | exact sh_items (by omega) | exact sh_sums (by omega)) rfl rfl (c_X7_hasWord hw h73 (fun _ => aK_i ?_) (fun q => absurd c q))
  refine wp_if_eq (pc := 5) (tgt := 17) dX7_kindAt_5 rfl (fun q => absurd q (by decide)) (fun _ => ?_)
  refine wp_aload_n (pc := 8) dX7_kindAt_8 (by first | rfl | assumption | (repeat first | assumption | rfl | refine aG_n ?_ rfl rfl)) ?_
  refine wp_getR (pc := 9) dX7_kindAt_9 fl_7_18 (by first | rfl | assumption | exact sh_house (by omega) | exact sh_wish (by omega) | exact sh_wor (by omega) | exact sh_bar (by omega) | exact sh_term (by omega) | exact sh_sheet (by omega) | exact sh_items (by omega) | exact sh_sums (by omega)) rfl ?_
  refine wp_iload_n (pc := 12) dX7_kindAt_12 (by first | rfl | assumption | (repeat first | assumption | rfl | refine aG_n ?_ rfl rfl)) ?_
  refine wp_iald (pc := 13) dX7_kindAt_13 (by first | rfl | assumption | exact sh_house (by omega) | exact sh_wish (by omega) | exact sh_wor (by omega) | exact sh_bar (by omega) | exact sh_term (by omega) | exact sh_sheet (by omega) | exact sh_items (by omega) | exact sh_sums (by omega)) (vp_in_nI (by omega) (by decide)) ?_
  refine wp_goto (pc := 14) (tgt := 19) dX7_kindAt_14 rfl ?_
  refine wp_ireturn (pc := 19) dX7_kindAt_19 rfl (by first | rfl | decide | assumption) ?_
  rw [eq]; exact k
theorem side_i (hn : n < 2 ^ 31) : nI n &&& 1 = nI (n % 2) := pk_andN (by omega) 1 (by decide)
theorem c_X7_partyOf (hn : n < 2 ^ 31) (k : Q (some (.int (if n % 2 = 0 then μ.1 73 1 else μ.1 73 2))) μ) : WP X mX7_partyOf 0 (lv_args 0 [.ref 73, .int (nI n)]) [] μ Q := by
  by_cases c : n % 2 = 0
  · rw [if_pos c] at k
    refine wp_aload_n (pc := 0) dX7_partyOf_0 (by first | rfl | assumption | (repeat first | assumption | rfl | refine aG_n ?_ rfl rfl)) ?_
    refine wp_iload_n (pc := 1) dX7_partyOf_1 (by first | rfl | assumption | (repeat first | assumption | rfl | refine aG_n ?_ rfl rfl)) ?_
    refine wp_cV (pc := 2) dX7_partyOf_2 lk_7_41 rfl (by decide) rfl (by first | rfl | assumption | exact sh_house (by omega) | exact sh_wish (by omega) | exact sh_wor (by omega) | exact sh_bar (by omega) | exact sh_term (by omega) | exact sh_sheet (by omega) | exact sh_items (by omega) | exact sh_sums (by omega)) rfl rfl ?_
    refine wp_iload_n (pc := 0) dX7_sideAt_0 (by first | rfl | assumption | (repeat first | assumption | rfl | refine aG_n ?_ rfl rfl)) ?_
    refine wp_iconst (pc := 1) (v := 1) dX7_sideAt_1 (by decide) ?_
    refine wp_iand (pc := 2) dX7_sideAt_2 ?_
    refine wp_iretK (pc := 3) dX7_sideAt_3 rfl (by first | rfl | decide | assumption) ?_
    refine wp_if_ne (pc := 5) (tgt := 15) dX7_partyOf_5 rfl (fun q => absurd (by rw [side_i hn, c]; rfl) q) (fun _ => ?_)
    refine wp_aload_n (pc := 8) dX7_partyOf_8 (by first | rfl | assumption | (repeat first | assumption | rfl | refine aG_n ?_ rfl rfl)) ?_
    refine wp_getI (pc := 9) dX7_partyOf_9 fl_7_32 (by first | rfl | assumption | exact sh_house (by omega) | exact sh_wish (by omega) | exact sh_wor (by omega) | exact sh_bar (by omega) | exact sh_term (by omega) | exact sh_sheet (by omega) | exact sh_items (by omega) | exact sh_sums (by omega)) rfl ?_
    refine wp_goto (pc := 12) (tgt := 19) dX7_partyOf_12 rfl ?_
    refine wp_ireturn (pc := 19) dX7_partyOf_19 rfl (by first | rfl | decide | assumption) ?_
    exact k
  · rw [if_neg c] at k
    have c' : n % 2 = 1 := by omega
    refine wp_aload_n (pc := 0) dX7_partyOf_0 (by first | rfl | assumption | (repeat first | assumption | rfl | refine aG_n ?_ rfl rfl)) ?_
    refine wp_iload_n (pc := 1) dX7_partyOf_1 (by first | rfl | assumption | (repeat first | assumption | rfl | refine aG_n ?_ rfl rfl)) ?_
    refine wp_cV (pc := 2) dX7_partyOf_2 lk_7_41 rfl (by decide) rfl (by first | rfl | assumption | exact sh_house (by omega) | exact sh_wish (by omega) | exact sh_wor (by omega) | exact sh_bar (by omega) | exact sh_term (by omega) | exact sh_sheet (by omega) | exact sh_items (by omega) | exact sh_sums (by omega)) rfl rfl ?_
    refine wp_iload_n (pc := 0) dX7_sideAt_0 (by first | rfl | assumption | (repeat first | assumption | rfl | refine aG_n ?_ rfl rfl)) ?_
    refine wp_iconst (pc := 1) (v := 1) dX7_sideAt_1 (by decide) ?_
    refine wp_iand (pc := 2) dX7_sideAt_2 ?_
    refine wp_iretK (pc := 3) dX7_sideAt_3 rfl (by first | rfl | decide | assumption) ?_
    refine wp_if_ne (pc := 5) (tgt := 15) dX7_partyOf_5 rfl (fun _ => ?_) (fun q => absurd q (by rw [side_i hn, c']; decide))
    refine wp_aload_n (pc := 15) dX7_partyOf_15 (by first | rfl | assumption | (repeat first | assumption | rfl | refine aG_n ?_ rfl rfl)) ?_
    refine wp_getI (pc := 16) dX7_partyOf_16 fl_7_15 (by first | rfl | assumption | exact sh_house (by omega) | exact sh_wish (by omega) | exact sh_wor (by omega) | exact sh_bar (by omega) | exact sh_term (by omega) | exact sh_sheet (by omega) | exact sh_items (by omega) | exact sh_sums (by omega)) rfl ?_
    refine wp_ireturn (pc := 19) dX7_partyOf_19 rfl (by first | rfl | decide | assumption) ?_
    exact k
theorem c_X12_whose (hn : n < 2 ^ 31) (k : Q (some (.int (if n % 2 = 0 then μ.1 86 16 else μ.1 86 17))) μ) : WP X mX12_whose 0 (lv_args 0 [.ref 86, .int (nI n)]) [] μ Q := by
  have e : nI n - nI n / 2 * 2 = nI (n % 2) := pk_rem hn (by decide) (by decide)
  by_cases c : n % 2 = 0
  · rw [if_pos c] at k
    refine wp_iload_n (pc := 0) dX12_whose_0 (by first | rfl | assumption | (repeat first | assumption | rfl | refine aG_n ?_ rfl rfl)) ?_
    refine wp_iconst (pc := 1) (v := 2) dX12_whose_1 (by decide) ?_
    refine wp_irem (pc := 2) dX12_whose_2 (by decide) ?_
    refine wp_if_ne (pc := 3) (tgt := 13) dX12_whose_3 rfl (fun q => absurd (by rw [e, c]; rfl) q) (fun _ => ?_)
    refine wp_aload_n (pc := 6) dX12_whose_6 (by first | rfl | assumption | (repeat first | assumption | rfl | refine aG_n ?_ rfl rfl)) ?_
    refine wp_getI (pc := 7) dX12_whose_7 fl_12_235 (by first | rfl | assumption | exact sh_house (by omega) | exact sh_wish (by omega) | exact sh_wor (by omega) | exact sh_bar (by omega) | exact sh_term (by omega) | exact sh_sheet (by omega) | exact sh_items (by omega) | exact sh_sums (by omega)) rfl ?_
    refine wp_goto (pc := 10) (tgt := 17) dX12_whose_10 rfl ?_
    refine wp_ireturn (pc := 17) dX12_whose_17 rfl (by first | rfl | decide | assumption) ?_
    exact k
  · rw [if_neg c] at k
    have c' : n % 2 = 1 := by omega
    refine wp_iload_n (pc := 0) dX12_whose_0 (by first | rfl | assumption | (repeat first | assumption | rfl | refine aG_n ?_ rfl rfl)) ?_
    refine wp_iconst (pc := 1) (v := 2) dX12_whose_1 (by decide) ?_
    refine wp_irem (pc := 2) dX12_whose_2 (by decide) ?_
    refine wp_if_ne (pc := 3) (tgt := 13) dX12_whose_3 rfl (fun _ => ?_) (fun q => absurd q (by rw [e, c']; decide))
    refine wp_aload_n (pc := 13) dX12_whose_13 (by first | rfl | assumption | (repeat first | assumption | rfl | refine aG_n ?_ rfl rfl)) ?_
    refine wp_getI (pc := 14) dX12_whose_14 fl_12_238 (by first | rfl | assumption | exact sh_house (by omega) | exact sh_wish (by omega) | exact sh_wor (by omega) | exact sh_bar (by omega) | exact sh_term (by omega) | exact sh_sheet (by omega) | exact sh_items (by omega) | exact sh_sums (by omega)) rfl ?_
    refine wp_ireturn (pc := 17) dX12_whose_17 rfl (by first | rfl | decide | assumption) ?_
    exact k
theorem c_X7_offerKind (hw : w ≤ 20) (h73 : μ.1 73 3 = nI w) (hk : ∀ q, q < 20 → μ.1 75 q = μ.1 100 q) (kt : ofW μ.1 w (i - 1) → Q (some (.int 2)) μ) (kf : ¬ ofW μ.1 w (i - 1) → Q (some (.int 1)) μ) : WP X mX7_offerKind 0 (lv_args 0 [.ref 73, .int i]) [] μ Q := by
  by_cases c : ofW μ.1 w (i - 1)
  · refine wp_aload_n (pc := 0) dX7_offerKind_0 (by first | rfl | assumption | (repeat first | assumption | rfl | refine aG_n ?_ rfl rfl)) ?_
    refine wp_iload_n (pc := 1) dX7_offerKind_1 (by first | rfl | assumption | (repeat first | assumption | rfl | refine aG_n ?_ rfl rfl)) ?_
    refine wp_iconst (pc := 2) (v := 1) dX7_offerKind_2 (by decide) ?_
    refine wp_isub (pc := 3) dX7_offerKind_3 ?_
    refine wp_cV (pc := 4) dX7_offerKind_4 lk_7_49 rfl (by decide) rfl (by first | rfl | assumption | exact sh_house (by omega) | exact sh_wish (by omega) | exact sh_wor (by omega) | exact sh_bar (by omega) | exact sh_term (by omega) | exact sh_sheet (by omega) | exact sh_items (by omega) | exact sh_sums (by omega)) rfl rfl (c_X7_isOffer hw h73 hk (fun _ => aK_i ?_) (fun q => absurd c q))
    refine wp_if_eq (pc := 7) (tgt := 14) dX7_offerKind_7 rfl (fun q => absurd q (by decide)) (fun _ => ?_)
    refine wp_iconst (pc := 10) (v := 2) dX7_offerKind_10 (by decide) ?_
    refine wp_goto (pc := 11) (tgt := 15) dX7_offerKind_11 rfl ?_
    refine wp_ireturn (pc := 15) dX7_offerKind_15 rfl (by first | rfl | decide | assumption) ?_
    exact kt c
  · refine wp_aload_n (pc := 0) dX7_offerKind_0 (by first | rfl | assumption | (repeat first | assumption | rfl | refine aG_n ?_ rfl rfl)) ?_
    refine wp_iload_n (pc := 1) dX7_offerKind_1 (by first | rfl | assumption | (repeat first | assumption | rfl | refine aG_n ?_ rfl rfl)) ?_
    refine wp_iconst (pc := 2) (v := 1) dX7_offerKind_2 (by decide) ?_
    refine wp_isub (pc := 3) dX7_offerKind_3 ?_
    refine wp_cV (pc := 4) dX7_offerKind_4 lk_7_49 rfl (by decide) rfl (by first | rfl | assumption | exact sh_house (by omega) | exact sh_wish (by omega) | exact sh_wor (by omega) | exact sh_bar (by omega) | exact sh_term (by omega) | exact sh_sheet (by omega) | exact sh_items (by omega) | exact sh_sums (by omega)) rfl rfl (c_X7_isOffer hw h73 hk (fun q => absurd q c) (fun _ => aK_i ?_))
    refine wp_if_eq (pc := 7) (tgt := 14) dX7_offerKind_7 rfl (fun _ => ?_) (fun q => absurd q (by decide))
    refine wp_iconst (pc := 14) (v := 1) dX7_offerKind_14 (by decide) ?_
    refine wp_ireturn (pc := 15) dX7_offerKind_15 rfl (by first | rfl | decide | assumption) ?_
    exact kf c
theorem c_X7_add (h0 : μ.1 73 0 = 1) (h3 : μ.1 73 3 = nI w) (h4 : μ.1 73 4 = nI mo) (hw : w < mo) (hm : mo ≤ 20) (k : Q none (addM μ.1 w kd st pr (zOf kd w mo), μ.2)) : WP X mX7_add 0 (lv_args 0 [.ref 73, .int kd, .int st, .int pr]) [] μ Q := by
  have cw : (nI w).toNatClampNeg = w := nI_clamp (by omega)
  unfold zOf at k
  by_cases c1 : kd = 3
  · rw [if_pos c1] at k
    refine wp_aload_n (pc := 0) dX7_add_0 (by first | rfl | assumption | (repeat first | assumption | rfl | refine aG_n ?_ rfl rfl)) ?_
    refine wp_cV (pc := 1) dX7_add_1 lk_7_68 rfl (by decide) rfl (by first | rfl | assumption | exact sh_house (by omega) | exact sh_wish (by omega) | exact sh_wor (by omega) | exact sh_bar (by omega) | exact sh_term (by omega) | exact sh_sheet (by omega) | exact sh_items (by omega) | exact sh_sums (by omega)) rfl rfl (c_X7_isOpen (fun _ => aK_i ?_) (fun q => absurd h0 q))
    refine wp_if_eq (pc := 4) (tgt := 23) dX7_add_4 rfl (fun q => absurd q (by decide)) (fun _ => ?_)
    refine wp_aload_n (pc := 7) dX7_add_7 (by first | rfl | assumption | (repeat first | assumption | rfl | refine aG_n ?_ rfl rfl)) ?_
    refine wp_getI (pc := 8) dX7_add_8 fl_7_38 (by first | rfl | assumption | exact sh_house (by omega) | exact sh_wish (by omega) | exact sh_wor (by omega) | exact sh_bar (by omega) | exact sh_term (by omega) | exact sh_sheet (by omega) | exact sh_items (by omega) | exact sh_sums (by omega)) rfl ?_
    refine wp_if_lt (pc := 11) (tgt := 23) dX7_add_11 rfl (fun q => absurd q (by rw [h3]; exact nI_nlt (b := 0) (by omega) (by omega))) (fun _ => ?_)
    refine wp_aload_n (pc := 14) dX7_add_14 (by first | rfl | assumption | (repeat first | assumption | rfl | refine aG_n ?_ rfl rfl)) ?_
    refine wp_getI (pc := 15) dX7_add_15 fl_7_38 (by first | rfl | assumption | exact sh_house (by omega) | exact sh_wish (by omega) | exact sh_wor (by omega) | exact sh_bar (by omega) | exact sh_term (by omega) | exact sh_sheet (by omega) | exact sh_items (by omega) | exact sh_sums (by omega)) rfl ?_
    refine wp_bipush (pc := 18) (v := 20) dX7_add_18 (by decide) ?_
    refine wp_icmp_lt (pc := 20) (tgt := 24) dX7_add_20 rfl (fun _ => ?_) (fun q => absurd (by rw [h3]; exact nI_lt (b := 20) (by omega) (by omega)) q)
    refine wp_aload_n (pc := 24) dX7_add_24 (by first | rfl | assumption | (repeat first | assumption | rfl | refine aG_n ?_ rfl rfl)) ?_
    refine wp_getR (pc := 25) dX7_add_25 fl_7_18 (by first | rfl | assumption | exact sh_house (by omega) | exact sh_wish (by omega) | exact sh_wor (by omega) | exact sh_bar (by omega) | exact sh_term (by omega) | exact sh_sheet (by omega) | exact sh_items (by omega) | exact sh_sums (by omega)) rfl ?_
    refine wp_aload_n (pc := 28) dX7_add_28 (by first | rfl | assumption | (repeat first | assumption | rfl | refine aG_n ?_ rfl rfl)) ?_
    refine wp_getI (pc := 29) dX7_add_29 fl_7_38 (by first | rfl | assumption | exact sh_house (by omega) | exact sh_wish (by omega) | exact sh_wor (by omega) | exact sh_bar (by omega) | exact sh_term (by omega) | exact sh_sheet (by omega) | exact sh_items (by omega) | exact sh_sums (by omega)) rfl ?_
    refine wp_iload_n (pc := 32) dX7_add_32 (by first | rfl | assumption | (repeat first | assumption | rfl | refine aG_n ?_ rfl rfl)) ?_
    refine wp_iast (pc := 33) dX7_add_33 (by first | rfl | assumption | exact sh_house (by omega) | exact sh_wish (by omega) | exact sh_wor (by omega) | exact sh_bar (by omega) | exact sh_term (by omega) | exact sh_sheet (by omega) | exact sh_items (by omega) | exact sh_sums (by omega)) (by simp (disch := omega) only [up2_ne, h3]; exact vp_in_nI (by omega) (by decide)) ?_
    refine wp_aload_n (pc := 34) dX7_add_34 (by first | rfl | assumption | (repeat first | assumption | rfl | refine aG_n ?_ rfl rfl)) ?_
    refine wp_getR (pc := 35) dX7_add_35 fl_7_22 (by first | rfl | assumption | exact sh_house (by omega) | exact sh_wish (by omega) | exact sh_wor (by omega) | exact sh_bar (by omega) | exact sh_term (by omega) | exact sh_sheet (by omega) | exact sh_items (by omega) | exact sh_sums (by omega)) rfl ?_
    refine wp_aload_n (pc := 38) dX7_add_38 (by first | rfl | assumption | (repeat first | assumption | rfl | refine aG_n ?_ rfl rfl)) ?_
    refine wp_getI (pc := 39) dX7_add_39 fl_7_38 (by first | rfl | assumption | exact sh_house (by omega) | exact sh_wish (by omega) | exact sh_wor (by omega) | exact sh_bar (by omega) | exact sh_term (by omega) | exact sh_sheet (by omega) | exact sh_items (by omega) | exact sh_sums (by omega)) rfl ?_
    refine wp_iload_n (pc := 42) dX7_add_42 (by first | rfl | assumption | (repeat first | assumption | rfl | refine aG_n ?_ rfl rfl)) ?_
    refine wp_iast (pc := 43) dX7_add_43 (by first | rfl | assumption | exact sh_house (by omega) | exact sh_wish (by omega) | exact sh_wor (by omega) | exact sh_bar (by omega) | exact sh_term (by omega) | exact sh_sheet (by omega) | exact sh_items (by omega) | exact sh_sums (by omega)) (by simp (disch := omega) only [up2_ne, h3]; exact vp_in_nI (by omega) (by decide)) ?_
    refine wp_aload_n (pc := 44) dX7_add_44 (by first | rfl | assumption | (repeat first | assumption | rfl | refine aG_n ?_ rfl rfl)) ?_
    refine wp_getR (pc := 45) dX7_add_45 fl_7_25 (by first | rfl | assumption | exact sh_house (by omega) | exact sh_wish (by omega) | exact sh_wor (by omega) | exact sh_bar (by omega) | exact sh_term (by omega) | exact sh_sheet (by omega) | exact sh_items (by omega) | exact sh_sums (by omega)) rfl ?_
    refine wp_aload_n (pc := 48) dX7_add_48 (by first | rfl | assumption | (repeat first | assumption | rfl | refine aG_n ?_ rfl rfl)) ?_
    refine wp_getI (pc := 49) dX7_add_49 fl_7_38 (by first | rfl | assumption | exact sh_house (by omega) | exact sh_wish (by omega) | exact sh_wor (by omega) | exact sh_bar (by omega) | exact sh_term (by omega) | exact sh_sheet (by omega) | exact sh_items (by omega) | exact sh_sums (by omega)) rfl ?_
    refine wp_iload_n (pc := 52) dX7_add_52 (by first | rfl | assumption | (repeat first | assumption | rfl | refine aG_n ?_ rfl rfl)) ?_
    refine wp_iast (pc := 53) dX7_add_53 (by first | rfl | assumption | exact sh_house (by omega) | exact sh_wish (by omega) | exact sh_wor (by omega) | exact sh_bar (by omega) | exact sh_term (by omega) | exact sh_sheet (by omega) | exact sh_items (by omega) | exact sh_sums (by omega)) (by simp (disch := omega) only [up2_ne, h3]; exact vp_in_nI (by omega) (by decide)) ?_
    refine wp_aload_n (pc := 54) dX7_add_54 (by first | rfl | assumption | (repeat first | assumption | rfl | refine aG_n ?_ rfl rfl)) ?_
    refine wp_dupr (pc := 55) dX7_add_55 ?_
    refine wp_getI (pc := 56) dX7_add_56 fl_7_38 (by first | rfl | assumption | exact sh_house (by omega) | exact sh_wish (by omega) | exact sh_wor (by omega) | exact sh_bar (by omega) | exact sh_term (by omega) | exact sh_sheet (by omega) | exact sh_items (by omega) | exact sh_sums (by omega)) rfl ?_
    refine wp_iconst (pc := 59) (v := 1) dX7_add_59 (by decide) ?_
    refine wp_iadd (pc := 60) dX7_add_60 ?_
    refine wp_putI (pc := 61) dX7_add_61 fl_7_38 (by first | rfl | assumption | exact sh_house (by omega) | exact sh_wish (by omega) | exact sh_wor (by omega) | exact sh_bar (by omega) | exact sh_term (by omega) | exact sh_sheet (by omega) | exact sh_items (by omega) | exact sh_sums (by omega)) rfl rfl rfl ?_
    refine wp_iload_n (pc := 64) dX7_add_64 (by first | rfl | assumption | (repeat first | assumption | rfl | refine aG_n ?_ rfl rfl)) ?_
    refine wp_iconst (pc := 65) (v := 3) dX7_add_65 (by decide) ?_
    refine wp_icmp_ne (pc := 66) (tgt := 77) dX7_add_66 rfl (fun q => absurd c1 q) (fun _ => ?_)
    refine wp_aload_n (pc := 69) dX7_add_69 (by first | rfl | assumption | (repeat first | assumption | rfl | refine aG_n ?_ rfl rfl)) ?_
    refine wp_iconst (pc := 70) (v := 2) dX7_add_70 (by decide) ?_
    refine wp_putI (pc := 71) dX7_add_71 fl_7_11 (by first | rfl | assumption | exact sh_house (by omega) | exact sh_wish (by omega) | exact sh_wor (by omega) | exact sh_bar (by omega) | exact sh_term (by omega) | exact sh_sheet (by omega) | exact sh_items (by omega) | exact sh_sums (by omega)) rfl rfl rfl ?_
    refine wp_goto (pc := 74) (tgt := 106) dX7_add_74 rfl ?_
    refine wp_vreturn (pc := 106) dX7_add_106 rfl ?_
    refine mEq ?_ k
    simp (disch := omega) only [addM, up2_ne, up2_p, h3, cw, nI_1]
  · rw [if_neg c1] at k
    by_cases c2 : kd = 4
    · rw [if_pos c2] at k
      refine wp_aload_n (pc := 0) dX7_add_0 (by first | rfl | assumption | (repeat first | assumption | rfl | refine aG_n ?_ rfl rfl)) ?_
      refine wp_cV (pc := 1) dX7_add_1 lk_7_68 rfl (by decide) rfl (by first | rfl | assumption | exact sh_house (by omega) | exact sh_wish (by omega) | exact sh_wor (by omega) | exact sh_bar (by omega) | exact sh_term (by omega) | exact sh_sheet (by omega) | exact sh_items (by omega) | exact sh_sums (by omega)) rfl rfl (c_X7_isOpen (fun _ => aK_i ?_) (fun q => absurd h0 q))
      refine wp_if_eq (pc := 4) (tgt := 23) dX7_add_4 rfl (fun q => absurd q (by decide)) (fun _ => ?_)
      refine wp_aload_n (pc := 7) dX7_add_7 (by first | rfl | assumption | (repeat first | assumption | rfl | refine aG_n ?_ rfl rfl)) ?_
      refine wp_getI (pc := 8) dX7_add_8 fl_7_38 (by first | rfl | assumption | exact sh_house (by omega) | exact sh_wish (by omega) | exact sh_wor (by omega) | exact sh_bar (by omega) | exact sh_term (by omega) | exact sh_sheet (by omega) | exact sh_items (by omega) | exact sh_sums (by omega)) rfl ?_
      refine wp_if_lt (pc := 11) (tgt := 23) dX7_add_11 rfl (fun q => absurd q (by rw [h3]; exact nI_nlt (b := 0) (by omega) (by omega))) (fun _ => ?_)
      refine wp_aload_n (pc := 14) dX7_add_14 (by first | rfl | assumption | (repeat first | assumption | rfl | refine aG_n ?_ rfl rfl)) ?_
      refine wp_getI (pc := 15) dX7_add_15 fl_7_38 (by first | rfl | assumption | exact sh_house (by omega) | exact sh_wish (by omega) | exact sh_wor (by omega) | exact sh_bar (by omega) | exact sh_term (by omega) | exact sh_sheet (by omega) | exact sh_items (by omega) | exact sh_sums (by omega)) rfl ?_
      refine wp_bipush (pc := 18) (v := 20) dX7_add_18 (by decide) ?_
      refine wp_icmp_lt (pc := 20) (tgt := 24) dX7_add_20 rfl (fun _ => ?_) (fun q => absurd (by rw [h3]; exact nI_lt (b := 20) (by omega) (by omega)) q)
      refine wp_aload_n (pc := 24) dX7_add_24 (by first | rfl | assumption | (repeat first | assumption | rfl | refine aG_n ?_ rfl rfl)) ?_
      refine wp_getR (pc := 25) dX7_add_25 fl_7_18 (by first | rfl | assumption | exact sh_house (by omega) | exact sh_wish (by omega) | exact sh_wor (by omega) | exact sh_bar (by omega) | exact sh_term (by omega) | exact sh_sheet (by omega) | exact sh_items (by omega) | exact sh_sums (by omega)) rfl ?_
      refine wp_aload_n (pc := 28) dX7_add_28 (by first | rfl | assumption | (repeat first | assumption | rfl | refine aG_n ?_ rfl rfl)) ?_
      refine wp_getI (pc := 29) dX7_add_29 fl_7_38 (by first | rfl | assumption | exact sh_house (by omega) | exact sh_wish (by omega) | exact sh_wor (by omega) | exact sh_bar (by omega) | exact sh_term (by omega) | exact sh_sheet (by omega) | exact sh_items (by omega) | exact sh_sums (by omega)) rfl ?_
      refine wp_iload_n (pc := 32) dX7_add_32 (by first | rfl | assumption | (repeat first | assumption | rfl | refine aG_n ?_ rfl rfl)) ?_
      refine wp_iast (pc := 33) dX7_add_33 (by first | rfl | assumption | exact sh_house (by omega) | exact sh_wish (by omega) | exact sh_wor (by omega) | exact sh_bar (by omega) | exact sh_term (by omega) | exact sh_sheet (by omega) | exact sh_items (by omega) | exact sh_sums (by omega)) (by simp (disch := omega) only [up2_ne, h3]; exact vp_in_nI (by omega) (by decide)) ?_
      refine wp_aload_n (pc := 34) dX7_add_34 (by first | rfl | assumption | (repeat first | assumption | rfl | refine aG_n ?_ rfl rfl)) ?_
      refine wp_getR (pc := 35) dX7_add_35 fl_7_22 (by first | rfl | assumption | exact sh_house (by omega) | exact sh_wish (by omega) | exact sh_wor (by omega) | exact sh_bar (by omega) | exact sh_term (by omega) | exact sh_sheet (by omega) | exact sh_items (by omega) | exact sh_sums (by omega)) rfl ?_
      refine wp_aload_n (pc := 38) dX7_add_38 (by first | rfl | assumption | (repeat first | assumption | rfl | refine aG_n ?_ rfl rfl)) ?_
      refine wp_getI (pc := 39) dX7_add_39 fl_7_38 (by first | rfl | assumption | exact sh_house (by omega) | exact sh_wish (by omega) | exact sh_wor (by omega) | exact sh_bar (by omega) | exact sh_term (by omega) | exact sh_sheet (by omega) | exact sh_items (by omega) | exact sh_sums (by omega)) rfl ?_
      refine wp_iload_n (pc := 42) dX7_add_42 (by first | rfl | assumption | (repeat first | assumption | rfl | refine aG_n ?_ rfl rfl)) ?_
      refine wp_iast (pc := 43) dX7_add_43 (by first | rfl | assumption | exact sh_house (by omega) | exact sh_wish (by omega) | exact sh_wor (by omega) | exact sh_bar (by omega) | exact sh_term (by omega) | exact sh_sheet (by omega) | exact sh_items (by omega) | exact sh_sums (by omega)) (by simp (disch := omega) only [up2_ne, h3]; exact vp_in_nI (by omega) (by decide)) ?_
      refine wp_aload_n (pc := 44) dX7_add_44 (by first | rfl | assumption | (repeat first | assumption | rfl | refine aG_n ?_ rfl rfl)) ?_
      refine wp_getR (pc := 45) dX7_add_45 fl_7_25 (by first | rfl | assumption | exact sh_house (by omega) | exact sh_wish (by omega) | exact sh_wor (by omega) | exact sh_bar (by omega) | exact sh_term (by omega) | exact sh_sheet (by omega) | exact sh_items (by omega) | exact sh_sums (by omega)) rfl ?_
      refine wp_aload_n (pc := 48) dX7_add_48 (by first | rfl | assumption | (repeat first | assumption | rfl | refine aG_n ?_ rfl rfl)) ?_
      refine wp_getI (pc := 49) dX7_add_49 fl_7_38 (by first | rfl | assumption | exact sh_house (by omega) | exact sh_wish (by omega) | exact sh_wor (by omega) | exact sh_bar (by omega) | exact sh_term (by omega) | exact sh_sheet (by omega) | exact sh_items (by omega) | exact sh_sums (by omega)) rfl ?_
      refine wp_iload_n (pc := 52) dX7_add_52 (by first | rfl | assumption | (repeat first | assumption | rfl | refine aG_n ?_ rfl rfl)) ?_
      refine wp_iast (pc := 53) dX7_add_53 (by first | rfl | assumption | exact sh_house (by omega) | exact sh_wish (by omega) | exact sh_wor (by omega) | exact sh_bar (by omega) | exact sh_term (by omega) | exact sh_sheet (by omega) | exact sh_items (by omega) | exact sh_sums (by omega)) (by simp (disch := omega) only [up2_ne, h3]; exact vp_in_nI (by omega) (by decide)) ?_
      refine wp_aload_n (pc := 54) dX7_add_54 (by first | rfl | assumption | (repeat first | assumption | rfl | refine aG_n ?_ rfl rfl)) ?_
      refine wp_dupr (pc := 55) dX7_add_55 ?_
      refine wp_getI (pc := 56) dX7_add_56 fl_7_38 (by first | rfl | assumption | exact sh_house (by omega) | exact sh_wish (by omega) | exact sh_wor (by omega) | exact sh_bar (by omega) | exact sh_term (by omega) | exact sh_sheet (by omega) | exact sh_items (by omega) | exact sh_sums (by omega)) rfl ?_
      refine wp_iconst (pc := 59) (v := 1) dX7_add_59 (by decide) ?_
      refine wp_iadd (pc := 60) dX7_add_60 ?_
      refine wp_putI (pc := 61) dX7_add_61 fl_7_38 (by first | rfl | assumption | exact sh_house (by omega) | exact sh_wish (by omega) | exact sh_wor (by omega) | exact sh_bar (by omega) | exact sh_term (by omega) | exact sh_sheet (by omega) | exact sh_items (by omega) | exact sh_sums (by omega)) rfl rfl rfl ?_
      refine wp_iload_n (pc := 64) dX7_add_64 (by first | rfl | assumption | (repeat first | assumption | rfl | refine aG_n ?_ rfl rfl)) ?_
      refine wp_iconst (pc := 65) (v := 3) dX7_add_65 (by decide) ?_
      refine wp_icmp_ne (pc := 66) (tgt := 77) dX7_add_66 rfl (fun _ => ?_) (fun q => absurd q c1)
      refine wp_iload_n (pc := 77) dX7_add_77 (by first | rfl | assumption | (repeat first | assumption | rfl | refine aG_n ?_ rfl rfl)) ?_
      refine wp_iconst (pc := 78) (v := 4) dX7_add_78 (by decide) ?_
      refine wp_icmp_ne (pc := 79) (tgt := 90) dX7_add_79 rfl (fun q => absurd c2 q) (fun _ => ?_)
      refine wp_aload_n (pc := 82) dX7_add_82 (by first | rfl | assumption | (repeat first | assumption | rfl | refine aG_n ?_ rfl rfl)) ?_
      refine wp_iconst (pc := 83) (v := 3) dX7_add_83 (by decide) ?_
      refine wp_putI (pc := 84) dX7_add_84 fl_7_11 (by first | rfl | assumption | exact sh_house (by omega) | exact sh_wish (by omega) | exact sh_wor (by omega) | exact sh_bar (by omega) | exact sh_term (by omega) | exact sh_sheet (by omega) | exact sh_items (by omega) | exact sh_sums (by omega)) rfl rfl rfl ?_
      refine wp_goto (pc := 87) (tgt := 106) dX7_add_87 rfl ?_
      refine wp_vreturn (pc := 106) dX7_add_106 rfl ?_
      refine mEq ?_ k
      simp (disch := omega) only [addM, up2_ne, up2_p, h3, cw, nI_1]
    · rw [if_neg c2] at k
      by_cases c3 : mo ≤ w + 1
      · rw [if_pos c3] at k
        refine wp_aload_n (pc := 0) dX7_add_0 (by first | rfl | assumption | (repeat first | assumption | rfl | refine aG_n ?_ rfl rfl)) ?_
        refine wp_cV (pc := 1) dX7_add_1 lk_7_68 rfl (by decide) rfl (by first | rfl | assumption | exact sh_house (by omega) | exact sh_wish (by omega) | exact sh_wor (by omega) | exact sh_bar (by omega) | exact sh_term (by omega) | exact sh_sheet (by omega) | exact sh_items (by omega) | exact sh_sums (by omega)) rfl rfl (c_X7_isOpen (fun _ => aK_i ?_) (fun q => absurd h0 q))
        refine wp_if_eq (pc := 4) (tgt := 23) dX7_add_4 rfl (fun q => absurd q (by decide)) (fun _ => ?_)
        refine wp_aload_n (pc := 7) dX7_add_7 (by first | rfl | assumption | (repeat first | assumption | rfl | refine aG_n ?_ rfl rfl)) ?_
        refine wp_getI (pc := 8) dX7_add_8 fl_7_38 (by first | rfl | assumption | exact sh_house (by omega) | exact sh_wish (by omega) | exact sh_wor (by omega) | exact sh_bar (by omega) | exact sh_term (by omega) | exact sh_sheet (by omega) | exact sh_items (by omega) | exact sh_sums (by omega)) rfl ?_
        refine wp_if_lt (pc := 11) (tgt := 23) dX7_add_11 rfl (fun q => absurd q (by rw [h3]; exact nI_nlt (b := 0) (by omega) (by omega))) (fun _ => ?_)
        refine wp_aload_n (pc := 14) dX7_add_14 (by first | rfl | assumption | (repeat first | assumption | rfl | refine aG_n ?_ rfl rfl)) ?_
        refine wp_getI (pc := 15) dX7_add_15 fl_7_38 (by first | rfl | assumption | exact sh_house (by omega) | exact sh_wish (by omega) | exact sh_wor (by omega) | exact sh_bar (by omega) | exact sh_term (by omega) | exact sh_sheet (by omega) | exact sh_items (by omega) | exact sh_sums (by omega)) rfl ?_
        refine wp_bipush (pc := 18) (v := 20) dX7_add_18 (by decide) ?_
        refine wp_icmp_lt (pc := 20) (tgt := 24) dX7_add_20 rfl (fun _ => ?_) (fun q => absurd (by rw [h3]; exact nI_lt (b := 20) (by omega) (by omega)) q)
        refine wp_aload_n (pc := 24) dX7_add_24 (by first | rfl | assumption | (repeat first | assumption | rfl | refine aG_n ?_ rfl rfl)) ?_
        refine wp_getR (pc := 25) dX7_add_25 fl_7_18 (by first | rfl | assumption | exact sh_house (by omega) | exact sh_wish (by omega) | exact sh_wor (by omega) | exact sh_bar (by omega) | exact sh_term (by omega) | exact sh_sheet (by omega) | exact sh_items (by omega) | exact sh_sums (by omega)) rfl ?_
        refine wp_aload_n (pc := 28) dX7_add_28 (by first | rfl | assumption | (repeat first | assumption | rfl | refine aG_n ?_ rfl rfl)) ?_
        refine wp_getI (pc := 29) dX7_add_29 fl_7_38 (by first | rfl | assumption | exact sh_house (by omega) | exact sh_wish (by omega) | exact sh_wor (by omega) | exact sh_bar (by omega) | exact sh_term (by omega) | exact sh_sheet (by omega) | exact sh_items (by omega) | exact sh_sums (by omega)) rfl ?_
        refine wp_iload_n (pc := 32) dX7_add_32 (by first | rfl | assumption | (repeat first | assumption | rfl | refine aG_n ?_ rfl rfl)) ?_
        refine wp_iast (pc := 33) dX7_add_33 (by first | rfl | assumption | exact sh_house (by omega) | exact sh_wish (by omega) | exact sh_wor (by omega) | exact sh_bar (by omega) | exact sh_term (by omega) | exact sh_sheet (by omega) | exact sh_items (by omega) | exact sh_sums (by omega)) (by simp (disch := omega) only [up2_ne, h3]; exact vp_in_nI (by omega) (by decide)) ?_
        refine wp_aload_n (pc := 34) dX7_add_34 (by first | rfl | assumption | (repeat first | assumption | rfl | refine aG_n ?_ rfl rfl)) ?_
        refine wp_getR (pc := 35) dX7_add_35 fl_7_22 (by first | rfl | assumption | exact sh_house (by omega) | exact sh_wish (by omega) | exact sh_wor (by omega) | exact sh_bar (by omega) | exact sh_term (by omega) | exact sh_sheet (by omega) | exact sh_items (by omega) | exact sh_sums (by omega)) rfl ?_
        refine wp_aload_n (pc := 38) dX7_add_38 (by first | rfl | assumption | (repeat first | assumption | rfl | refine aG_n ?_ rfl rfl)) ?_
        refine wp_getI (pc := 39) dX7_add_39 fl_7_38 (by first | rfl | assumption | exact sh_house (by omega) | exact sh_wish (by omega) | exact sh_wor (by omega) | exact sh_bar (by omega) | exact sh_term (by omega) | exact sh_sheet (by omega) | exact sh_items (by omega) | exact sh_sums (by omega)) rfl ?_
        refine wp_iload_n (pc := 42) dX7_add_42 (by first | rfl | assumption | (repeat first | assumption | rfl | refine aG_n ?_ rfl rfl)) ?_
        refine wp_iast (pc := 43) dX7_add_43 (by first | rfl | assumption | exact sh_house (by omega) | exact sh_wish (by omega) | exact sh_wor (by omega) | exact sh_bar (by omega) | exact sh_term (by omega) | exact sh_sheet (by omega) | exact sh_items (by omega) | exact sh_sums (by omega)) (by simp (disch := omega) only [up2_ne, h3]; exact vp_in_nI (by omega) (by decide)) ?_
        refine wp_aload_n (pc := 44) dX7_add_44 (by first | rfl | assumption | (repeat first | assumption | rfl | refine aG_n ?_ rfl rfl)) ?_
        refine wp_getR (pc := 45) dX7_add_45 fl_7_25 (by first | rfl | assumption | exact sh_house (by omega) | exact sh_wish (by omega) | exact sh_wor (by omega) | exact sh_bar (by omega) | exact sh_term (by omega) | exact sh_sheet (by omega) | exact sh_items (by omega) | exact sh_sums (by omega)) rfl ?_
        refine wp_aload_n (pc := 48) dX7_add_48 (by first | rfl | assumption | (repeat first | assumption | rfl | refine aG_n ?_ rfl rfl)) ?_
        refine wp_getI (pc := 49) dX7_add_49 fl_7_38 (by first | rfl | assumption | exact sh_house (by omega) | exact sh_wish (by omega) | exact sh_wor (by omega) | exact sh_bar (by omega) | exact sh_term (by omega) | exact sh_sheet (by omega) | exact sh_items (by omega) | exact sh_sums (by omega)) rfl ?_
        refine wp_iload_n (pc := 52) dX7_add_52 (by first | rfl | assumption | (repeat first | assumption | rfl | refine aG_n ?_ rfl rfl)) ?_
        refine wp_iast (pc := 53) dX7_add_53 (by first | rfl | assumption | exact sh_house (by omega) | exact sh_wish (by omega) | exact sh_wor (by omega) | exact sh_bar (by omega) | exact sh_term (by omega) | exact sh_sheet (by omega) | exact sh_items (by omega) | exact sh_sums (by omega)) (by simp (disch := omega) only [up2_ne, h3]; exact vp_in_nI (by omega) (by decide)) ?_
        refine wp_aload_n (pc := 54) dX7_add_54 (by first | rfl | assumption | (repeat first | assumption | rfl | refine aG_n ?_ rfl rfl)) ?_
        refine wp_dupr (pc := 55) dX7_add_55 ?_
        refine wp_getI (pc := 56) dX7_add_56 fl_7_38 (by first | rfl | assumption | exact sh_house (by omega) | exact sh_wish (by omega) | exact sh_wor (by omega) | exact sh_bar (by omega) | exact sh_term (by omega) | exact sh_sheet (by omega) | exact sh_items (by omega) | exact sh_sums (by omega)) rfl ?_
        refine wp_iconst (pc := 59) (v := 1) dX7_add_59 (by decide) ?_
        refine wp_iadd (pc := 60) dX7_add_60 ?_
        refine wp_putI (pc := 61) dX7_add_61 fl_7_38 (by first | rfl | assumption | exact sh_house (by omega) | exact sh_wish (by omega) | exact sh_wor (by omega) | exact sh_bar (by omega) | exact sh_term (by omega) | exact sh_sheet (by omega) | exact sh_items (by omega) | exact sh_sums (by omega)) rfl rfl rfl ?_
        refine wp_iload_n (pc := 64) dX7_add_64 (by first | rfl | assumption | (repeat first | assumption | rfl | refine aG_n ?_ rfl rfl)) ?_
        refine wp_iconst (pc := 65) (v := 3) dX7_add_65 (by decide) ?_
        refine wp_icmp_ne (pc := 66) (tgt := 77) dX7_add_66 rfl (fun _ => ?_) (fun q => absurd q c1)
        refine wp_iload_n (pc := 77) dX7_add_77 (by first | rfl | assumption | (repeat first | assumption | rfl | refine aG_n ?_ rfl rfl)) ?_
        refine wp_iconst (pc := 78) (v := 4) dX7_add_78 (by decide) ?_
        refine wp_icmp_ne (pc := 79) (tgt := 90) dX7_add_79 rfl (fun _ => ?_) (fun q => absurd q c2)
        refine wp_aload_n (pc := 90) dX7_add_90 (by first | rfl | assumption | (repeat first | assumption | rfl | refine aG_n ?_ rfl rfl)) ?_
        refine wp_getI (pc := 91) dX7_add_91 fl_7_38 (by first | rfl | assumption | exact sh_house (by omega) | exact sh_wish (by omega) | exact sh_wor (by omega) | exact sh_bar (by omega) | exact sh_term (by omega) | exact sh_sheet (by omega) | exact sh_items (by omega) | exact sh_sums (by omega)) rfl ?_
        refine wp_aload_n (pc := 94) dX7_add_94 (by first | rfl | assumption | (repeat first | assumption | rfl | refine aG_n ?_ rfl rfl)) ?_
        refine wp_getI (pc := 95) dX7_add_95 fl_7_35 (by first | rfl | assumption | exact sh_house (by omega) | exact sh_wish (by omega) | exact sh_wor (by omega) | exact sh_bar (by omega) | exact sh_term (by omega) | exact sh_sheet (by omega) | exact sh_items (by omega) | exact sh_sums (by omega)) rfl ?_
        refine wp_icmp_lt (pc := 98) (tgt := 106) dX7_add_98 rfl (fun q => absurd q (by simp (disch := omega) only [up2_ne, up2_p, up2_at, h3, h4, cw, nI_1]; exact nI_nlt (by omega) (by omega))) (fun _ => ?_)
        refine wp_aload_n (pc := 101) dX7_add_101 (by first | rfl | assumption | (repeat first | assumption | rfl | refine aG_n ?_ rfl rfl)) ?_
        refine wp_iconst (pc := 102) (v := 4) dX7_add_102 (by decide) ?_
        refine wp_putI (pc := 103) dX7_add_103 fl_7_11 (by first | rfl | assumption | exact sh_house (by omega) | exact sh_wish (by omega) | exact sh_wor (by omega) | exact sh_bar (by omega) | exact sh_term (by omega) | exact sh_sheet (by omega) | exact sh_items (by omega) | exact sh_sums (by omega)) rfl rfl rfl ?_
        refine wp_vreturn (pc := 106) dX7_add_106 rfl ?_
        refine mEq ?_ k
        simp (disch := omega) only [addM, up2_ne, up2_p, h3, cw, nI_1]
      · rw [if_neg c3] at k
        rw [show addM μ.1 w kd st pr 1 = up2 (up2 (up2 (up2 μ.1 75 w kd) 76 w st) 77 w pr) 73 3 (nI (w + 1)) from up2_id (by simp (disch := omega) only [up2_ne, up2_p]; exact h0)] at k
        refine wp_aload_n (pc := 0) dX7_add_0 (by first | rfl | assumption | (repeat first | assumption | rfl | refine aG_n ?_ rfl rfl)) ?_
        refine wp_cV (pc := 1) dX7_add_1 lk_7_68 rfl (by decide) rfl (by first | rfl | assumption | exact sh_house (by omega) | exact sh_wish (by omega) | exact sh_wor (by omega) | exact sh_bar (by omega) | exact sh_term (by omega) | exact sh_sheet (by omega) | exact sh_items (by omega) | exact sh_sums (by omega)) rfl rfl (c_X7_isOpen (fun _ => aK_i ?_) (fun q => absurd h0 q))
        refine wp_if_eq (pc := 4) (tgt := 23) dX7_add_4 rfl (fun q => absurd q (by decide)) (fun _ => ?_)
        refine wp_aload_n (pc := 7) dX7_add_7 (by first | rfl | assumption | (repeat first | assumption | rfl | refine aG_n ?_ rfl rfl)) ?_
        refine wp_getI (pc := 8) dX7_add_8 fl_7_38 (by first | rfl | assumption | exact sh_house (by omega) | exact sh_wish (by omega) | exact sh_wor (by omega) | exact sh_bar (by omega) | exact sh_term (by omega) | exact sh_sheet (by omega) | exact sh_items (by omega) | exact sh_sums (by omega)) rfl ?_
        refine wp_if_lt (pc := 11) (tgt := 23) dX7_add_11 rfl (fun q => absurd q (by rw [h3]; exact nI_nlt (b := 0) (by omega) (by omega))) (fun _ => ?_)
        refine wp_aload_n (pc := 14) dX7_add_14 (by first | rfl | assumption | (repeat first | assumption | rfl | refine aG_n ?_ rfl rfl)) ?_
        refine wp_getI (pc := 15) dX7_add_15 fl_7_38 (by first | rfl | assumption | exact sh_house (by omega) | exact sh_wish (by omega) | exact sh_wor (by omega) | exact sh_bar (by omega) | exact sh_term (by omega) | exact sh_sheet (by omega) | exact sh_items (by omega) | exact sh_sums (by omega)) rfl ?_
        refine wp_bipush (pc := 18) (v := 20) dX7_add_18 (by decide) ?_
        refine wp_icmp_lt (pc := 20) (tgt := 24) dX7_add_20 rfl (fun _ => ?_) (fun q => absurd (by rw [h3]; exact nI_lt (b := 20) (by omega) (by omega)) q)
        refine wp_aload_n (pc := 24) dX7_add_24 (by first | rfl | assumption | (repeat first | assumption | rfl | refine aG_n ?_ rfl rfl)) ?_
        refine wp_getR (pc := 25) dX7_add_25 fl_7_18 (by first | rfl | assumption | exact sh_house (by omega) | exact sh_wish (by omega) | exact sh_wor (by omega) | exact sh_bar (by omega) | exact sh_term (by omega) | exact sh_sheet (by omega) | exact sh_items (by omega) | exact sh_sums (by omega)) rfl ?_
        refine wp_aload_n (pc := 28) dX7_add_28 (by first | rfl | assumption | (repeat first | assumption | rfl | refine aG_n ?_ rfl rfl)) ?_
        refine wp_getI (pc := 29) dX7_add_29 fl_7_38 (by first | rfl | assumption | exact sh_house (by omega) | exact sh_wish (by omega) | exact sh_wor (by omega) | exact sh_bar (by omega) | exact sh_term (by omega) | exact sh_sheet (by omega) | exact sh_items (by omega) | exact sh_sums (by omega)) rfl ?_
        refine wp_iload_n (pc := 32) dX7_add_32 (by first | rfl | assumption | (repeat first | assumption | rfl | refine aG_n ?_ rfl rfl)) ?_
        refine wp_iast (pc := 33) dX7_add_33 (by first | rfl | assumption | exact sh_house (by omega) | exact sh_wish (by omega) | exact sh_wor (by omega) | exact sh_bar (by omega) | exact sh_term (by omega) | exact sh_sheet (by omega) | exact sh_items (by omega) | exact sh_sums (by omega)) (by simp (disch := omega) only [up2_ne, h3]; exact vp_in_nI (by omega) (by decide)) ?_
        refine wp_aload_n (pc := 34) dX7_add_34 (by first | rfl | assumption | (repeat first | assumption | rfl | refine aG_n ?_ rfl rfl)) ?_
        refine wp_getR (pc := 35) dX7_add_35 fl_7_22 (by first | rfl | assumption | exact sh_house (by omega) | exact sh_wish (by omega) | exact sh_wor (by omega) | exact sh_bar (by omega) | exact sh_term (by omega) | exact sh_sheet (by omega) | exact sh_items (by omega) | exact sh_sums (by omega)) rfl ?_
        refine wp_aload_n (pc := 38) dX7_add_38 (by first | rfl | assumption | (repeat first | assumption | rfl | refine aG_n ?_ rfl rfl)) ?_
        refine wp_getI (pc := 39) dX7_add_39 fl_7_38 (by first | rfl | assumption | exact sh_house (by omega) | exact sh_wish (by omega) | exact sh_wor (by omega) | exact sh_bar (by omega) | exact sh_term (by omega) | exact sh_sheet (by omega) | exact sh_items (by omega) | exact sh_sums (by omega)) rfl ?_
        refine wp_iload_n (pc := 42) dX7_add_42 (by first | rfl | assumption | (repeat first | assumption | rfl | refine aG_n ?_ rfl rfl)) ?_
        refine wp_iast (pc := 43) dX7_add_43 (by first | rfl | assumption | exact sh_house (by omega) | exact sh_wish (by omega) | exact sh_wor (by omega) | exact sh_bar (by omega) | exact sh_term (by omega) | exact sh_sheet (by omega) | exact sh_items (by omega) | exact sh_sums (by omega)) (by simp (disch := omega) only [up2_ne, h3]; exact vp_in_nI (by omega) (by decide)) ?_
        refine wp_aload_n (pc := 44) dX7_add_44 (by first | rfl | assumption | (repeat first | assumption | rfl | refine aG_n ?_ rfl rfl)) ?_
        refine wp_getR (pc := 45) dX7_add_45 fl_7_25 (by first | rfl | assumption | exact sh_house (by omega) | exact sh_wish (by omega) | exact sh_wor (by omega) | exact sh_bar (by omega) | exact sh_term (by omega) | exact sh_sheet (by omega) | exact sh_items (by omega) | exact sh_sums (by omega)) rfl ?_
        refine wp_aload_n (pc := 48) dX7_add_48 (by first | rfl | assumption | (repeat first | assumption | rfl | refine aG_n ?_ rfl rfl)) ?_
        refine wp_getI (pc := 49) dX7_add_49 fl_7_38 (by first | rfl | assumption | exact sh_house (by omega) | exact sh_wish (by omega) | exact sh_wor (by omega) | exact sh_bar (by omega) | exact sh_term (by omega) | exact sh_sheet (by omega) | exact sh_items (by omega) | exact sh_sums (by omega)) rfl ?_
        refine wp_iload_n (pc := 52) dX7_add_52 (by first | rfl | assumption | (repeat first | assumption | rfl | refine aG_n ?_ rfl rfl)) ?_
        refine wp_iast (pc := 53) dX7_add_53 (by first | rfl | assumption | exact sh_house (by omega) | exact sh_wish (by omega) | exact sh_wor (by omega) | exact sh_bar (by omega) | exact sh_term (by omega) | exact sh_sheet (by omega) | exact sh_items (by omega) | exact sh_sums (by omega)) (by simp (disch := omega) only [up2_ne, h3]; exact vp_in_nI (by omega) (by decide)) ?_
        refine wp_aload_n (pc := 54) dX7_add_54 (by first | rfl | assumption | (repeat first | assumption | rfl | refine aG_n ?_ rfl rfl)) ?_
        refine wp_dupr (pc := 55) dX7_add_55 ?_
        refine wp_getI (pc := 56) dX7_add_56 fl_7_38 (by first | rfl | assumption | exact sh_house (by omega) | exact sh_wish (by omega) | exact sh_wor (by omega) | exact sh_bar (by omega) | exact sh_term (by omega) | exact sh_sheet (by omega) | exact sh_items (by omega) | exact sh_sums (by omega)) rfl ?_
        refine wp_iconst (pc := 59) (v := 1) dX7_add_59 (by decide) ?_
        refine wp_iadd (pc := 60) dX7_add_60 ?_
        refine wp_putI (pc := 61) dX7_add_61 fl_7_38 (by first | rfl | assumption | exact sh_house (by omega) | exact sh_wish (by omega) | exact sh_wor (by omega) | exact sh_bar (by omega) | exact sh_term (by omega) | exact sh_sheet (by omega) | exact sh_items (by omega) | exact sh_sums (by omega)) rfl rfl rfl ?_
        refine wp_iload_n (pc := 64) dX7_add_64 (by first | rfl | assumption | (repeat first | assumption | rfl | refine aG_n ?_ rfl rfl)) ?_
        refine wp_iconst (pc := 65) (v := 3) dX7_add_65 (by decide) ?_
        refine wp_icmp_ne (pc := 66) (tgt := 77) dX7_add_66 rfl (fun _ => ?_) (fun q => absurd q c1)
        refine wp_iload_n (pc := 77) dX7_add_77 (by first | rfl | assumption | (repeat first | assumption | rfl | refine aG_n ?_ rfl rfl)) ?_
        refine wp_iconst (pc := 78) (v := 4) dX7_add_78 (by decide) ?_
        refine wp_icmp_ne (pc := 79) (tgt := 90) dX7_add_79 rfl (fun _ => ?_) (fun q => absurd q c2)
        refine wp_aload_n (pc := 90) dX7_add_90 (by first | rfl | assumption | (repeat first | assumption | rfl | refine aG_n ?_ rfl rfl)) ?_
        refine wp_getI (pc := 91) dX7_add_91 fl_7_38 (by first | rfl | assumption | exact sh_house (by omega) | exact sh_wish (by omega) | exact sh_wor (by omega) | exact sh_bar (by omega) | exact sh_term (by omega) | exact sh_sheet (by omega) | exact sh_items (by omega) | exact sh_sums (by omega)) rfl ?_
        refine wp_aload_n (pc := 94) dX7_add_94 (by first | rfl | assumption | (repeat first | assumption | rfl | refine aG_n ?_ rfl rfl)) ?_
        refine wp_getI (pc := 95) dX7_add_95 fl_7_35 (by first | rfl | assumption | exact sh_house (by omega) | exact sh_wish (by omega) | exact sh_wor (by omega) | exact sh_bar (by omega) | exact sh_term (by omega) | exact sh_sheet (by omega) | exact sh_items (by omega) | exact sh_sums (by omega)) rfl ?_
        refine wp_icmp_lt (pc := 98) (tgt := 106) dX7_add_98 rfl (fun _ => ?_) (fun q => absurd (by simp (disch := omega) only [up2_ne, up2_p, up2_at, h3, h4, cw, nI_1]; exact nI_lt (by omega) (by omega)) q)
        refine wp_vreturn (pc := 106) dX7_add_106 rfl ?_
        refine mEq ?_ k
        simp (disch := omega) only [addM, up2_ne, up2_p, h3, cw, nI_1]
theorem c_X12_say (h3 : μ.1 86 19 = nI w) (h0 : μ.1 86 15 = 1) (h4 : μ.1 86 18 = nI mo) (hw : w < mo) (hm : mo ≤ 20) (k : Q none (sayM μ.1 w kd st pr (zOf kd w mo), μ.2)) : WP X mX12_say 0 (lv_args 0 [.ref 86, .int kd, .int st, .int pr]) [] μ Q := by
  have cw : (nI w).toNatClampNeg = w := nI_clamp (by omega)
  unfold zOf at k
  by_cases c1 : kd = 3
  · rw [if_pos c1] at k
    refine wp_aload_n (pc := 0) dX12_say_0 (by first | rfl | assumption | (repeat first | assumption | rfl | refine aG_n ?_ rfl rfl)) ?_
    refine wp_getR (pc := 1) dX12_say_1 fl_12_50 (by first | rfl | assumption | exact sh_house (by omega) | exact sh_wish (by omega) | exact sh_wor (by omega) | exact sh_bar (by omega) | exact sh_term (by omega) | exact sh_sheet (by omega) | exact sh_items (by omega) | exact sh_sums (by omega)) rfl ?_
    refine wp_aload_n (pc := 4) dX12_say_4 (by first | rfl | assumption | (repeat first | assumption | rfl | refine aG_n ?_ rfl rfl)) ?_
    refine wp_getI (pc := 5) dX12_say_5 fl_12_244 (by first | rfl | assumption | exact sh_house (by omega) | exact sh_wish (by omega) | exact sh_wor (by omega) | exact sh_bar (by omega) | exact sh_term (by omega) | exact sh_sheet (by omega) | exact sh_items (by omega) | exact sh_sums (by omega)) rfl ?_
    refine wp_iload_n (pc := 8) dX12_say_8 (by first | rfl | assumption | (repeat first | assumption | rfl | refine aG_n ?_ rfl rfl)) ?_
    refine wp_iast (pc := 9) dX12_say_9 (by first | rfl | assumption | exact sh_house (by omega) | exact sh_wish (by omega) | exact sh_wor (by omega) | exact sh_bar (by omega) | exact sh_term (by omega) | exact sh_sheet (by omega) | exact sh_items (by omega) | exact sh_sums (by omega)) (by simp (disch := omega) only [up2_ne, h3]; exact vp_in_nI (by omega) (by decide)) ?_
    refine wp_aload_n (pc := 10) dX12_say_10 (by first | rfl | assumption | (repeat first | assumption | rfl | refine aG_n ?_ rfl rfl)) ?_
    refine wp_getR (pc := 11) dX12_say_11 fl_12_53 (by first | rfl | assumption | exact sh_house (by omega) | exact sh_wish (by omega) | exact sh_wor (by omega) | exact sh_bar (by omega) | exact sh_term (by omega) | exact sh_sheet (by omega) | exact sh_items (by omega) | exact sh_sums (by omega)) rfl ?_
    refine wp_aload_n (pc := 14) dX12_say_14 (by first | rfl | assumption | (repeat first | assumption | rfl | refine aG_n ?_ rfl rfl)) ?_
    refine wp_getI (pc := 15) dX12_say_15 fl_12_244 (by first | rfl | assumption | exact sh_house (by omega) | exact sh_wish (by omega) | exact sh_wor (by omega) | exact sh_bar (by omega) | exact sh_term (by omega) | exact sh_sheet (by omega) | exact sh_items (by omega) | exact sh_sums (by omega)) rfl ?_
    refine wp_iload_n (pc := 18) dX12_say_18 (by first | rfl | assumption | (repeat first | assumption | rfl | refine aG_n ?_ rfl rfl)) ?_
    refine wp_iast (pc := 19) dX12_say_19 (by first | rfl | assumption | exact sh_house (by omega) | exact sh_wish (by omega) | exact sh_wor (by omega) | exact sh_bar (by omega) | exact sh_term (by omega) | exact sh_sheet (by omega) | exact sh_items (by omega) | exact sh_sums (by omega)) (by simp (disch := omega) only [up2_ne, h3]; exact vp_in_nI (by omega) (by decide)) ?_
    refine wp_aload_n (pc := 20) dX12_say_20 (by first | rfl | assumption | (repeat first | assumption | rfl | refine aG_n ?_ rfl rfl)) ?_
    refine wp_getR (pc := 21) dX12_say_21 fl_12_56 (by first | rfl | assumption | exact sh_house (by omega) | exact sh_wish (by omega) | exact sh_wor (by omega) | exact sh_bar (by omega) | exact sh_term (by omega) | exact sh_sheet (by omega) | exact sh_items (by omega) | exact sh_sums (by omega)) rfl ?_
    refine wp_aload_n (pc := 24) dX12_say_24 (by first | rfl | assumption | (repeat first | assumption | rfl | refine aG_n ?_ rfl rfl)) ?_
    refine wp_getI (pc := 25) dX12_say_25 fl_12_244 (by first | rfl | assumption | exact sh_house (by omega) | exact sh_wish (by omega) | exact sh_wor (by omega) | exact sh_bar (by omega) | exact sh_term (by omega) | exact sh_sheet (by omega) | exact sh_items (by omega) | exact sh_sums (by omega)) rfl ?_
    refine wp_iload_n (pc := 28) dX12_say_28 (by first | rfl | assumption | (repeat first | assumption | rfl | refine aG_n ?_ rfl rfl)) ?_
    refine wp_iast (pc := 29) dX12_say_29 (by first | rfl | assumption | exact sh_house (by omega) | exact sh_wish (by omega) | exact sh_wor (by omega) | exact sh_bar (by omega) | exact sh_term (by omega) | exact sh_sheet (by omega) | exact sh_items (by omega) | exact sh_sums (by omega)) (by simp (disch := omega) only [up2_ne, h3]; exact vp_in_nI (by omega) (by decide)) ?_
    refine wp_aload_n (pc := 30) dX12_say_30 (by first | rfl | assumption | (repeat first | assumption | rfl | refine aG_n ?_ rfl rfl)) ?_
    refine wp_dupr (pc := 31) dX12_say_31 ?_
    refine wp_getI (pc := 32) dX12_say_32 fl_12_244 (by first | rfl | assumption | exact sh_house (by omega) | exact sh_wish (by omega) | exact sh_wor (by omega) | exact sh_bar (by omega) | exact sh_term (by omega) | exact sh_sheet (by omega) | exact sh_items (by omega) | exact sh_sums (by omega)) rfl ?_
    refine wp_iconst (pc := 35) (v := 1) dX12_say_35 (by decide) ?_
    refine wp_iadd (pc := 36) dX12_say_36 ?_
    refine wp_putI (pc := 37) dX12_say_37 fl_12_244 (by first | rfl | assumption | exact sh_house (by omega) | exact sh_wish (by omega) | exact sh_wor (by omega) | exact sh_bar (by omega) | exact sh_term (by omega) | exact sh_sheet (by omega) | exact sh_items (by omega) | exact sh_sums (by omega)) rfl rfl rfl ?_
    refine wp_iload_n (pc := 40) dX12_say_40 (by first | rfl | assumption | (repeat first | assumption | rfl | refine aG_n ?_ rfl rfl)) ?_
    refine wp_iconst (pc := 41) (v := 3) dX12_say_41 (by decide) ?_
    refine wp_icmp_ne (pc := 42) (tgt := 53) dX12_say_42 rfl (fun q => absurd c1 q) (fun _ => ?_)
    refine wp_aload_n (pc := 45) dX12_say_45 (by first | rfl | assumption | (repeat first | assumption | rfl | refine aG_n ?_ rfl rfl)) ?_
    refine wp_iconst (pc := 46) (v := 2) dX12_say_46 (by decide) ?_
    refine wp_putI (pc := 47) dX12_say_47 fl_12_137 (by first | rfl | assumption | exact sh_house (by omega) | exact sh_wish (by omega) | exact sh_wor (by omega) | exact sh_bar (by omega) | exact sh_term (by omega) | exact sh_sheet (by omega) | exact sh_items (by omega) | exact sh_sums (by omega)) rfl rfl rfl ?_
    refine wp_goto (pc := 50) (tgt := 82) dX12_say_50 rfl ?_
    refine wp_vreturn (pc := 82) dX12_say_82 rfl ?_
    refine mEq ?_ k
    simp (disch := omega) only [sayM, up2_ne, up2_p, h3, cw, nI_1]
  · rw [if_neg c1] at k
    by_cases c2 : kd = 4
    · rw [if_pos c2] at k
      refine wp_aload_n (pc := 0) dX12_say_0 (by first | rfl | assumption | (repeat first | assumption | rfl | refine aG_n ?_ rfl rfl)) ?_
      refine wp_getR (pc := 1) dX12_say_1 fl_12_50 (by first | rfl | assumption | exact sh_house (by omega) | exact sh_wish (by omega) | exact sh_wor (by omega) | exact sh_bar (by omega) | exact sh_term (by omega) | exact sh_sheet (by omega) | exact sh_items (by omega) | exact sh_sums (by omega)) rfl ?_
      refine wp_aload_n (pc := 4) dX12_say_4 (by first | rfl | assumption | (repeat first | assumption | rfl | refine aG_n ?_ rfl rfl)) ?_
      refine wp_getI (pc := 5) dX12_say_5 fl_12_244 (by first | rfl | assumption | exact sh_house (by omega) | exact sh_wish (by omega) | exact sh_wor (by omega) | exact sh_bar (by omega) | exact sh_term (by omega) | exact sh_sheet (by omega) | exact sh_items (by omega) | exact sh_sums (by omega)) rfl ?_
      refine wp_iload_n (pc := 8) dX12_say_8 (by first | rfl | assumption | (repeat first | assumption | rfl | refine aG_n ?_ rfl rfl)) ?_
      refine wp_iast (pc := 9) dX12_say_9 (by first | rfl | assumption | exact sh_house (by omega) | exact sh_wish (by omega) | exact sh_wor (by omega) | exact sh_bar (by omega) | exact sh_term (by omega) | exact sh_sheet (by omega) | exact sh_items (by omega) | exact sh_sums (by omega)) (by simp (disch := omega) only [up2_ne, h3]; exact vp_in_nI (by omega) (by decide)) ?_
      refine wp_aload_n (pc := 10) dX12_say_10 (by first | rfl | assumption | (repeat first | assumption | rfl | refine aG_n ?_ rfl rfl)) ?_
      refine wp_getR (pc := 11) dX12_say_11 fl_12_53 (by first | rfl | assumption | exact sh_house (by omega) | exact sh_wish (by omega) | exact sh_wor (by omega) | exact sh_bar (by omega) | exact sh_term (by omega) | exact sh_sheet (by omega) | exact sh_items (by omega) | exact sh_sums (by omega)) rfl ?_
      refine wp_aload_n (pc := 14) dX12_say_14 (by first | rfl | assumption | (repeat first | assumption | rfl | refine aG_n ?_ rfl rfl)) ?_
      refine wp_getI (pc := 15) dX12_say_15 fl_12_244 (by first | rfl | assumption | exact sh_house (by omega) | exact sh_wish (by omega) | exact sh_wor (by omega) | exact sh_bar (by omega) | exact sh_term (by omega) | exact sh_sheet (by omega) | exact sh_items (by omega) | exact sh_sums (by omega)) rfl ?_
      refine wp_iload_n (pc := 18) dX12_say_18 (by first | rfl | assumption | (repeat first | assumption | rfl | refine aG_n ?_ rfl rfl)) ?_
      refine wp_iast (pc := 19) dX12_say_19 (by first | rfl | assumption | exact sh_house (by omega) | exact sh_wish (by omega) | exact sh_wor (by omega) | exact sh_bar (by omega) | exact sh_term (by omega) | exact sh_sheet (by omega) | exact sh_items (by omega) | exact sh_sums (by omega)) (by simp (disch := omega) only [up2_ne, h3]; exact vp_in_nI (by omega) (by decide)) ?_
      refine wp_aload_n (pc := 20) dX12_say_20 (by first | rfl | assumption | (repeat first | assumption | rfl | refine aG_n ?_ rfl rfl)) ?_
      refine wp_getR (pc := 21) dX12_say_21 fl_12_56 (by first | rfl | assumption | exact sh_house (by omega) | exact sh_wish (by omega) | exact sh_wor (by omega) | exact sh_bar (by omega) | exact sh_term (by omega) | exact sh_sheet (by omega) | exact sh_items (by omega) | exact sh_sums (by omega)) rfl ?_
      refine wp_aload_n (pc := 24) dX12_say_24 (by first | rfl | assumption | (repeat first | assumption | rfl | refine aG_n ?_ rfl rfl)) ?_
      refine wp_getI (pc := 25) dX12_say_25 fl_12_244 (by first | rfl | assumption | exact sh_house (by omega) | exact sh_wish (by omega) | exact sh_wor (by omega) | exact sh_bar (by omega) | exact sh_term (by omega) | exact sh_sheet (by omega) | exact sh_items (by omega) | exact sh_sums (by omega)) rfl ?_
      refine wp_iload_n (pc := 28) dX12_say_28 (by first | rfl | assumption | (repeat first | assumption | rfl | refine aG_n ?_ rfl rfl)) ?_
      refine wp_iast (pc := 29) dX12_say_29 (by first | rfl | assumption | exact sh_house (by omega) | exact sh_wish (by omega) | exact sh_wor (by omega) | exact sh_bar (by omega) | exact sh_term (by omega) | exact sh_sheet (by omega) | exact sh_items (by omega) | exact sh_sums (by omega)) (by simp (disch := omega) only [up2_ne, h3]; exact vp_in_nI (by omega) (by decide)) ?_
      refine wp_aload_n (pc := 30) dX12_say_30 (by first | rfl | assumption | (repeat first | assumption | rfl | refine aG_n ?_ rfl rfl)) ?_
      refine wp_dupr (pc := 31) dX12_say_31 ?_
      refine wp_getI (pc := 32) dX12_say_32 fl_12_244 (by first | rfl | assumption | exact sh_house (by omega) | exact sh_wish (by omega) | exact sh_wor (by omega) | exact sh_bar (by omega) | exact sh_term (by omega) | exact sh_sheet (by omega) | exact sh_items (by omega) | exact sh_sums (by omega)) rfl ?_
      refine wp_iconst (pc := 35) (v := 1) dX12_say_35 (by decide) ?_
      refine wp_iadd (pc := 36) dX12_say_36 ?_
      refine wp_putI (pc := 37) dX12_say_37 fl_12_244 (by first | rfl | assumption | exact sh_house (by omega) | exact sh_wish (by omega) | exact sh_wor (by omega) | exact sh_bar (by omega) | exact sh_term (by omega) | exact sh_sheet (by omega) | exact sh_items (by omega) | exact sh_sums (by omega)) rfl rfl rfl ?_
      refine wp_iload_n (pc := 40) dX12_say_40 (by first | rfl | assumption | (repeat first | assumption | rfl | refine aG_n ?_ rfl rfl)) ?_
      refine wp_iconst (pc := 41) (v := 3) dX12_say_41 (by decide) ?_
      refine wp_icmp_ne (pc := 42) (tgt := 53) dX12_say_42 rfl (fun _ => ?_) (fun q => absurd q c1)
      refine wp_iload_n (pc := 53) dX12_say_53 (by first | rfl | assumption | (repeat first | assumption | rfl | refine aG_n ?_ rfl rfl)) ?_
      refine wp_iconst (pc := 54) (v := 4) dX12_say_54 (by decide) ?_
      refine wp_icmp_ne (pc := 55) (tgt := 66) dX12_say_55 rfl (fun q => absurd c2 q) (fun _ => ?_)
      refine wp_aload_n (pc := 58) dX12_say_58 (by first | rfl | assumption | (repeat first | assumption | rfl | refine aG_n ?_ rfl rfl)) ?_
      refine wp_iconst (pc := 59) (v := 3) dX12_say_59 (by decide) ?_
      refine wp_putI (pc := 60) dX12_say_60 fl_12_137 (by first | rfl | assumption | exact sh_house (by omega) | exact sh_wish (by omega) | exact sh_wor (by omega) | exact sh_bar (by omega) | exact sh_term (by omega) | exact sh_sheet (by omega) | exact sh_items (by omega) | exact sh_sums (by omega)) rfl rfl rfl ?_
      refine wp_goto (pc := 63) (tgt := 82) dX12_say_63 rfl ?_
      refine wp_vreturn (pc := 82) dX12_say_82 rfl ?_
      refine mEq ?_ k
      simp (disch := omega) only [sayM, up2_ne, up2_p, h3, cw, nI_1]
    · rw [if_neg c2] at k
      by_cases c3 : mo ≤ w + 1
      · rw [if_pos c3] at k
        refine wp_aload_n (pc := 0) dX12_say_0 (by first | rfl | assumption | (repeat first | assumption | rfl | refine aG_n ?_ rfl rfl)) ?_
        refine wp_getR (pc := 1) dX12_say_1 fl_12_50 (by first | rfl | assumption | exact sh_house (by omega) | exact sh_wish (by omega) | exact sh_wor (by omega) | exact sh_bar (by omega) | exact sh_term (by omega) | exact sh_sheet (by omega) | exact sh_items (by omega) | exact sh_sums (by omega)) rfl ?_
        refine wp_aload_n (pc := 4) dX12_say_4 (by first | rfl | assumption | (repeat first | assumption | rfl | refine aG_n ?_ rfl rfl)) ?_
        refine wp_getI (pc := 5) dX12_say_5 fl_12_244 (by first | rfl | assumption | exact sh_house (by omega) | exact sh_wish (by omega) | exact sh_wor (by omega) | exact sh_bar (by omega) | exact sh_term (by omega) | exact sh_sheet (by omega) | exact sh_items (by omega) | exact sh_sums (by omega)) rfl ?_
        refine wp_iload_n (pc := 8) dX12_say_8 (by first | rfl | assumption | (repeat first | assumption | rfl | refine aG_n ?_ rfl rfl)) ?_
        refine wp_iast (pc := 9) dX12_say_9 (by first | rfl | assumption | exact sh_house (by omega) | exact sh_wish (by omega) | exact sh_wor (by omega) | exact sh_bar (by omega) | exact sh_term (by omega) | exact sh_sheet (by omega) | exact sh_items (by omega) | exact sh_sums (by omega)) (by simp (disch := omega) only [up2_ne, h3]; exact vp_in_nI (by omega) (by decide)) ?_
        refine wp_aload_n (pc := 10) dX12_say_10 (by first | rfl | assumption | (repeat first | assumption | rfl | refine aG_n ?_ rfl rfl)) ?_
        refine wp_getR (pc := 11) dX12_say_11 fl_12_53 (by first | rfl | assumption | exact sh_house (by omega) | exact sh_wish (by omega) | exact sh_wor (by omega) | exact sh_bar (by omega) | exact sh_term (by omega) | exact sh_sheet (by omega) | exact sh_items (by omega) | exact sh_sums (by omega)) rfl ?_
        refine wp_aload_n (pc := 14) dX12_say_14 (by first | rfl | assumption | (repeat first | assumption | rfl | refine aG_n ?_ rfl rfl)) ?_
        refine wp_getI (pc := 15) dX12_say_15 fl_12_244 (by first | rfl | assumption | exact sh_house (by omega) | exact sh_wish (by omega) | exact sh_wor (by omega) | exact sh_bar (by omega) | exact sh_term (by omega) | exact sh_sheet (by omega) | exact sh_items (by omega) | exact sh_sums (by omega)) rfl ?_
        refine wp_iload_n (pc := 18) dX12_say_18 (by first | rfl | assumption | (repeat first | assumption | rfl | refine aG_n ?_ rfl rfl)) ?_
        refine wp_iast (pc := 19) dX12_say_19 (by first | rfl | assumption | exact sh_house (by omega) | exact sh_wish (by omega) | exact sh_wor (by omega) | exact sh_bar (by omega) | exact sh_term (by omega) | exact sh_sheet (by omega) | exact sh_items (by omega) | exact sh_sums (by omega)) (by simp (disch := omega) only [up2_ne, h3]; exact vp_in_nI (by omega) (by decide)) ?_
        refine wp_aload_n (pc := 20) dX12_say_20 (by first | rfl | assumption | (repeat first | assumption | rfl | refine aG_n ?_ rfl rfl)) ?_
        refine wp_getR (pc := 21) dX12_say_21 fl_12_56 (by first | rfl | assumption | exact sh_house (by omega) | exact sh_wish (by omega) | exact sh_wor (by omega) | exact sh_bar (by omega) | exact sh_term (by omega) | exact sh_sheet (by omega) | exact sh_items (by omega) | exact sh_sums (by omega)) rfl ?_
        refine wp_aload_n (pc := 24) dX12_say_24 (by first | rfl | assumption | (repeat first | assumption | rfl | refine aG_n ?_ rfl rfl)) ?_
        refine wp_getI (pc := 25) dX12_say_25 fl_12_244 (by first | rfl | assumption | exact sh_house (by omega) | exact sh_wish (by omega) | exact sh_wor (by omega) | exact sh_bar (by omega) | exact sh_term (by omega) | exact sh_sheet (by omega) | exact sh_items (by omega) | exact sh_sums (by omega)) rfl ?_
        refine wp_iload_n (pc := 28) dX12_say_28 (by first | rfl | assumption | (repeat first | assumption | rfl | refine aG_n ?_ rfl rfl)) ?_
        refine wp_iast (pc := 29) dX12_say_29 (by first | rfl | assumption | exact sh_house (by omega) | exact sh_wish (by omega) | exact sh_wor (by omega) | exact sh_bar (by omega) | exact sh_term (by omega) | exact sh_sheet (by omega) | exact sh_items (by omega) | exact sh_sums (by omega)) (by simp (disch := omega) only [up2_ne, h3]; exact vp_in_nI (by omega) (by decide)) ?_
        refine wp_aload_n (pc := 30) dX12_say_30 (by first | rfl | assumption | (repeat first | assumption | rfl | refine aG_n ?_ rfl rfl)) ?_
        refine wp_dupr (pc := 31) dX12_say_31 ?_
        refine wp_getI (pc := 32) dX12_say_32 fl_12_244 (by first | rfl | assumption | exact sh_house (by omega) | exact sh_wish (by omega) | exact sh_wor (by omega) | exact sh_bar (by omega) | exact sh_term (by omega) | exact sh_sheet (by omega) | exact sh_items (by omega) | exact sh_sums (by omega)) rfl ?_
        refine wp_iconst (pc := 35) (v := 1) dX12_say_35 (by decide) ?_
        refine wp_iadd (pc := 36) dX12_say_36 ?_
        refine wp_putI (pc := 37) dX12_say_37 fl_12_244 (by first | rfl | assumption | exact sh_house (by omega) | exact sh_wish (by omega) | exact sh_wor (by omega) | exact sh_bar (by omega) | exact sh_term (by omega) | exact sh_sheet (by omega) | exact sh_items (by omega) | exact sh_sums (by omega)) rfl rfl rfl ?_
        refine wp_iload_n (pc := 40) dX12_say_40 (by first | rfl | assumption | (repeat first | assumption | rfl | refine aG_n ?_ rfl rfl)) ?_
        refine wp_iconst (pc := 41) (v := 3) dX12_say_41 (by decide) ?_
        refine wp_icmp_ne (pc := 42) (tgt := 53) dX12_say_42 rfl (fun _ => ?_) (fun q => absurd q c1)
        refine wp_iload_n (pc := 53) dX12_say_53 (by first | rfl | assumption | (repeat first | assumption | rfl | refine aG_n ?_ rfl rfl)) ?_
        refine wp_iconst (pc := 54) (v := 4) dX12_say_54 (by decide) ?_
        refine wp_icmp_ne (pc := 55) (tgt := 66) dX12_say_55 rfl (fun _ => ?_) (fun q => absurd q c2)
        refine wp_aload_n (pc := 66) dX12_say_66 (by first | rfl | assumption | (repeat first | assumption | rfl | refine aG_n ?_ rfl rfl)) ?_
        refine wp_getI (pc := 67) dX12_say_67 fl_12_244 (by first | rfl | assumption | exact sh_house (by omega) | exact sh_wish (by omega) | exact sh_wor (by omega) | exact sh_bar (by omega) | exact sh_term (by omega) | exact sh_sheet (by omega) | exact sh_items (by omega) | exact sh_sums (by omega)) rfl ?_
        refine wp_aload_n (pc := 70) dX12_say_70 (by first | rfl | assumption | (repeat first | assumption | rfl | refine aG_n ?_ rfl rfl)) ?_
        refine wp_getI (pc := 71) dX12_say_71 fl_12_241 (by first | rfl | assumption | exact sh_house (by omega) | exact sh_wish (by omega) | exact sh_wor (by omega) | exact sh_bar (by omega) | exact sh_term (by omega) | exact sh_sheet (by omega) | exact sh_items (by omega) | exact sh_sums (by omega)) rfl ?_
        refine wp_icmp_ne (pc := 74) (tgt := 82) dX12_say_74 rfl (fun q => absurd (by simp (disch := omega) only [up2_ne, up2_p, up2_at, h3, h4, cw, nI_1]; rw [nI_eq (by omega) (by omega)]; omega) q) (fun _ => ?_)
        refine wp_aload_n (pc := 77) dX12_say_77 (by first | rfl | assumption | (repeat first | assumption | rfl | refine aG_n ?_ rfl rfl)) ?_
        refine wp_iconst (pc := 78) (v := 4) dX12_say_78 (by decide) ?_
        refine wp_putI (pc := 79) dX12_say_79 fl_12_137 (by first | rfl | assumption | exact sh_house (by omega) | exact sh_wish (by omega) | exact sh_wor (by omega) | exact sh_bar (by omega) | exact sh_term (by omega) | exact sh_sheet (by omega) | exact sh_items (by omega) | exact sh_sums (by omega)) rfl rfl rfl ?_
        refine wp_vreturn (pc := 82) dX12_say_82 rfl ?_
        refine mEq ?_ k
        simp (disch := omega) only [sayM, up2_ne, up2_p, h3, cw, nI_1]
      · rw [if_neg c3] at k
        rw [show sayM μ.1 w kd st pr 1 = up2 (up2 (up2 (up2 μ.1 100 w kd) 101 w st) 102 w pr) 86 19 (nI (w + 1)) from up2_id (by simp (disch := omega) only [up2_ne, up2_p]; exact h0)] at k
        refine wp_aload_n (pc := 0) dX12_say_0 (by first | rfl | assumption | (repeat first | assumption | rfl | refine aG_n ?_ rfl rfl)) ?_
        refine wp_getR (pc := 1) dX12_say_1 fl_12_50 (by first | rfl | assumption | exact sh_house (by omega) | exact sh_wish (by omega) | exact sh_wor (by omega) | exact sh_bar (by omega) | exact sh_term (by omega) | exact sh_sheet (by omega) | exact sh_items (by omega) | exact sh_sums (by omega)) rfl ?_
        refine wp_aload_n (pc := 4) dX12_say_4 (by first | rfl | assumption | (repeat first | assumption | rfl | refine aG_n ?_ rfl rfl)) ?_
        refine wp_getI (pc := 5) dX12_say_5 fl_12_244 (by first | rfl | assumption | exact sh_house (by omega) | exact sh_wish (by omega) | exact sh_wor (by omega) | exact sh_bar (by omega) | exact sh_term (by omega) | exact sh_sheet (by omega) | exact sh_items (by omega) | exact sh_sums (by omega)) rfl ?_
        refine wp_iload_n (pc := 8) dX12_say_8 (by first | rfl | assumption | (repeat first | assumption | rfl | refine aG_n ?_ rfl rfl)) ?_
        refine wp_iast (pc := 9) dX12_say_9 (by first | rfl | assumption | exact sh_house (by omega) | exact sh_wish (by omega) | exact sh_wor (by omega) | exact sh_bar (by omega) | exact sh_term (by omega) | exact sh_sheet (by omega) | exact sh_items (by omega) | exact sh_sums (by omega)) (by simp (disch := omega) only [up2_ne, h3]; exact vp_in_nI (by omega) (by decide)) ?_
        refine wp_aload_n (pc := 10) dX12_say_10 (by first | rfl | assumption | (repeat first | assumption | rfl | refine aG_n ?_ rfl rfl)) ?_
        refine wp_getR (pc := 11) dX12_say_11 fl_12_53 (by first | rfl | assumption | exact sh_house (by omega) | exact sh_wish (by omega) | exact sh_wor (by omega) | exact sh_bar (by omega) | exact sh_term (by omega) | exact sh_sheet (by omega) | exact sh_items (by omega) | exact sh_sums (by omega)) rfl ?_
        refine wp_aload_n (pc := 14) dX12_say_14 (by first | rfl | assumption | (repeat first | assumption | rfl | refine aG_n ?_ rfl rfl)) ?_
        refine wp_getI (pc := 15) dX12_say_15 fl_12_244 (by first | rfl | assumption | exact sh_house (by omega) | exact sh_wish (by omega) | exact sh_wor (by omega) | exact sh_bar (by omega) | exact sh_term (by omega) | exact sh_sheet (by omega) | exact sh_items (by omega) | exact sh_sums (by omega)) rfl ?_
        refine wp_iload_n (pc := 18) dX12_say_18 (by first | rfl | assumption | (repeat first | assumption | rfl | refine aG_n ?_ rfl rfl)) ?_
        refine wp_iast (pc := 19) dX12_say_19 (by first | rfl | assumption | exact sh_house (by omega) | exact sh_wish (by omega) | exact sh_wor (by omega) | exact sh_bar (by omega) | exact sh_term (by omega) | exact sh_sheet (by omega) | exact sh_items (by omega) | exact sh_sums (by omega)) (by simp (disch := omega) only [up2_ne, h3]; exact vp_in_nI (by omega) (by decide)) ?_
        refine wp_aload_n (pc := 20) dX12_say_20 (by first | rfl | assumption | (repeat first | assumption | rfl | refine aG_n ?_ rfl rfl)) ?_
        refine wp_getR (pc := 21) dX12_say_21 fl_12_56 (by first | rfl | assumption | exact sh_house (by omega) | exact sh_wish (by omega) | exact sh_wor (by omega) | exact sh_bar (by omega) | exact sh_term (by omega) | exact sh_sheet (by omega) | exact sh_items (by omega) | exact sh_sums (by omega)) rfl ?_
        refine wp_aload_n (pc := 24) dX12_say_24 (by first | rfl | assumption | (repeat first | assumption | rfl | refine aG_n ?_ rfl rfl)) ?_
        refine wp_getI (pc := 25) dX12_say_25 fl_12_244 (by first | rfl | assumption | exact sh_house (by omega) | exact sh_wish (by omega) | exact sh_wor (by omega) | exact sh_bar (by omega) | exact sh_term (by omega) | exact sh_sheet (by omega) | exact sh_items (by omega) | exact sh_sums (by omega)) rfl ?_
        refine wp_iload_n (pc := 28) dX12_say_28 (by first | rfl | assumption | (repeat first | assumption | rfl | refine aG_n ?_ rfl rfl)) ?_
        refine wp_iast (pc := 29) dX12_say_29 (by first | rfl | assumption | exact sh_house (by omega) | exact sh_wish (by omega) | exact sh_wor (by omega) | exact sh_bar (by omega) | exact sh_term (by omega) | exact sh_sheet (by omega) | exact sh_items (by omega) | exact sh_sums (by omega)) (by simp (disch := omega) only [up2_ne, h3]; exact vp_in_nI (by omega) (by decide)) ?_
        refine wp_aload_n (pc := 30) dX12_say_30 (by first | rfl | assumption | (repeat first | assumption | rfl | refine aG_n ?_ rfl rfl)) ?_
        refine wp_dupr (pc := 31) dX12_say_31 ?_
        refine wp_getI (pc := 32) dX12_say_32 fl_12_244 (by first | rfl | assumption | exact sh_house (by omega) | exact sh_wish (by omega) | exact sh_wor (by omega) | exact sh_bar (by omega) | exact sh_term (by omega) | exact sh_sheet (by omega) | exact sh_items (by omega) | exact sh_sums (by omega)) rfl ?_
        refine wp_iconst (pc := 35) (v := 1) dX12_say_35 (by decide) ?_
        refine wp_iadd (pc := 36) dX12_say_36 ?_
        refine wp_putI (pc := 37) dX12_say_37 fl_12_244 (by first | rfl | assumption | exact sh_house (by omega) | exact sh_wish (by omega) | exact sh_wor (by omega) | exact sh_bar (by omega) | exact sh_term (by omega) | exact sh_sheet (by omega) | exact sh_items (by omega) | exact sh_sums (by omega)) rfl rfl rfl ?_
        refine wp_iload_n (pc := 40) dX12_say_40 (by first | rfl | assumption | (repeat first | assumption | rfl | refine aG_n ?_ rfl rfl)) ?_
        refine wp_iconst (pc := 41) (v := 3) dX12_say_41 (by decide) ?_
        refine wp_icmp_ne (pc := 42) (tgt := 53) dX12_say_42 rfl (fun _ => ?_) (fun q => absurd q c1)
        refine wp_iload_n (pc := 53) dX12_say_53 (by first | rfl | assumption | (repeat first | assumption | rfl | refine aG_n ?_ rfl rfl)) ?_
        refine wp_iconst (pc := 54) (v := 4) dX12_say_54 (by decide) ?_
        refine wp_icmp_ne (pc := 55) (tgt := 66) dX12_say_55 rfl (fun _ => ?_) (fun q => absurd q c2)
        refine wp_aload_n (pc := 66) dX12_say_66 (by first | rfl | assumption | (repeat first | assumption | rfl | refine aG_n ?_ rfl rfl)) ?_
        refine wp_getI (pc := 67) dX12_say_67 fl_12_244 (by first | rfl | assumption | exact sh_house (by omega) | exact sh_wish (by omega) | exact sh_wor (by omega) | exact sh_bar (by omega) | exact sh_term (by omega) | exact sh_sheet (by omega) | exact sh_items (by omega) | exact sh_sums (by omega)) rfl ?_
        refine wp_aload_n (pc := 70) dX12_say_70 (by first | rfl | assumption | (repeat first | assumption | rfl | refine aG_n ?_ rfl rfl)) ?_
        refine wp_getI (pc := 71) dX12_say_71 fl_12_241 (by first | rfl | assumption | exact sh_house (by omega) | exact sh_wish (by omega) | exact sh_wor (by omega) | exact sh_bar (by omega) | exact sh_term (by omega) | exact sh_sheet (by omega) | exact sh_items (by omega) | exact sh_sums (by omega)) rfl ?_
        refine wp_icmp_ne (pc := 74) (tgt := 82) dX12_say_74 rfl (fun _ => ?_) (fun q => absurd q (by simp (disch := omega) only [up2_ne, up2_p, up2_at, h3, h4, cw, nI_1]; rw [nI_eq (by omega) (by omega)]; omega))
        refine wp_vreturn (pc := 82) dX12_say_82 rfl ?_
        refine mEq ?_ k
        simp (disch := omega) only [sayM, up2_ne, up2_p, h3, cw, nI_1]
end TALK
theorem talk_add {M : MM} {R : Nat → Nat → Nat} {w mo : Nat} {kd st pr : Int32} (h : I_talk M R) (ho : M 86 15 = 1) (hw : M 86 19 = nI w) (hw20 : w ≤ 20) (hmo : M 86 18 = nI mo) (hmo20 : mo ≤ 20) (hk : inR kd 0 4) (h1 : (kd = 1 ∨ kd = 2) → (∃ t, t < 64 ∧ st = nI t) ∧ inR pr (-999) 999 ∧ (kd = 2 ↔ 0 < w ∧ isOf M (w - 1))) (h2 : ¬ (kd = 1 ∨ kd = 2) → st = 0 ∧ pr = 0) (h4 : (kd = 1 ∨ kd = 2) → st &&& ((M 86 23 ||| M 86 24) ^^^ (-1)) = 0) : I_talk (sayM (addM M w kd st pr (zOf kd w mo)) w kd st pr (zOf kd w mo)) R := by
  obtain ⟨c1, c2, c3, c4, w', c5, c6, c7, c8⟩ := h
  obtain rfl : w' = w := (nI_eq (by omega) (by omega)).mp (c6.symm.trans hw)
  obtain ⟨a, b, mo', d1, d2, d3, d4, d5, d6, d7, d8, d9, d10⟩ := c8 (by rw [ho]; decide)
  obtain rfl : mo' = mo := (nI_eq (by omega) (by omega)).mp (d3.2.1.symm.trans hmo)
  have hlt := d3.2.2.2.2 ho
  have zr : inR (zOf kd w' mo') 0 4 := by
    unfold zOf inR
    split
    · decide
    · split
      · decide
      · split <;> decide
  have z1 : zOf kd w' mo' = 1 → w' + 1 < mo' := by
    unfold zOf
    intro h
    split at h
    · exact absurd h (by decide)
    · split at h
      · exact absurd h (by decide)
      · split at h
        · exact absurd h (by decide)
        · omega
  have zn : ¬ zOf kd w' mo' = 0 := by
    unfold zOf
    split
    · decide
    · split
      · decide
      · split <;> decide
  generalize zOf kd w' mo' = z at *
  unfold I_talk isOf sayM addM
  refine ⟨?_, ?_, ?_, fun j hj => ?_, w' + 1, by omega, ?_, fun q => ?_, fun _ => ⟨a, b, mo', d1, ?_, ?_, ?_, d5, ?_, ?_, ?_, fun q => ?_, fun j hj => ?_⟩⟩
  · simp (disch := omega) only [up2_ne, up2_p, up2_at]
  · simp (disch := omega) only [up2_ne, up2_p, up2_at]; exact zr
  · simp (disch := omega) only [up2_ne, up2_p, up2_at]
  · by_cases e : j = w'
    · subst e
      simp (disch := omega) only [up2_ne, up2_p, up2_at]
      exact ⟨trivial, trivial, trivial⟩
    · simp (disch := omega) only [up2_ne, up2_p, up2_at]
      exact c4 j hj
  · simp (disch := omega) only [up2_ne, up2_p, up2_at]
  · simp (disch := omega) only [up2_ne, up2_p, up2_at] at q
    exact absurd q zn
  · simp (disch := omega) only [up2_ne, up2_p, up2_at]; exact d2
  · simp (disch := omega) only [up2_ne, up2_p, up2_at]; exact ⟨d3.1, d3.2.1, d3.2.2.1, by omega, z1⟩
  · simp (disch := omega) only [up2_ne, up2_p, up2_at]; exact d4
  · simp (disch := omega) only [up2_ne, up2_p, up2_at]; exact d6
  · simp (disch := omega) only [up2_ne, up2_p, up2_at]; exact d7
  · simp (disch := omega) only [up2_ne, up2_p, up2_at]; exact d8
  · simp (disch := omega) only [up2_ne, up2_p, up2_at]; exact d9 ho
  · by_cases e : j = w'
    · subst e
      simp (disch := omega) only [up2_ne, up2_p, up2_at]
      refine ⟨hk, fun q => ?_, h2, h4⟩
      obtain ⟨e1, e2, e3⟩ := h1 q
      refine ⟨e1, e2, e3.trans ?_⟩
      by_cases ej : j = 0
      · constructor <;> (intro y; omega)
      · simp (disch := omega) only [up2_ne, up2_p, up2_at]; rfl
    · simp (disch := omega) only [up2_ne, up2_p, up2_at]
      have := d10 j (by omega)
      unfold isOf at this
      by_cases ej : j = 0
      · subst ej
        obtain ⟨f1, f2, f3⟩ := this
        refine ⟨f1, fun q => ?_, f3⟩
        obtain ⟨g1, g2, g3⟩ := f2 q
        refine ⟨g1, g2, g3.trans ?_⟩
        constructor <;> (intro y; omega)
      · exact this
theorem Inv_say {μ : Mm} {w mo : Nat} {kd st pr : Int32} (hI : Inv μ) (ho : μ.1 86 15 = 1) (hw : μ.1 86 19 = nI w) (hw20 : w ≤ 20) (hmo : μ.1 86 18 = nI mo) (hmo20 : mo ≤ 20) (hk : inR kd 0 4) (h1 : (kd = 1 ∨ kd = 2) → (∃ t, t < 64 ∧ st = nI t) ∧ inR pr (-999) 999 ∧ (kd = 2 ↔ 0 < w ∧ isOf μ.1 (w - 1))) (h2 : ¬ (kd = 1 ∨ kd = 2) → st = 0 ∧ pr = 0) (h4 : (kd = 1 ∨ kd = 2) → st &&& ((μ.1 86 23 ||| μ.1 86 24) ^^^ (-1)) = 0) : Inv (sayM (addM μ.1 w kd st pr (zOf kd w mo)) w kd st pr (zOf kd w mo), μ.2) := by
  have hT := talk_add hI.2.2.2.2.2.1 ho hw hw20 hmo hmo20 hk h1 h2 h4
  generalize zOf kd w mo = z at *
  unfold sayM addM at *
  exact ⟨own_c (by simp (disch := omega) only [up2_ne, fil_ne]) (fun i9 hi9 => (by simp (disch := omega) only [up2_ne, up2_p, fil_ne, fil_p])) (hI.1), coin_c (by simp (disch := omega) only [up2_ne, fil_ne]) (fun i9 hi9 => (by simp (disch := omega) only [up2_ne, up2_p, fil_ne, fil_p])) (hI.2.1), lev_c ⟨(by simp (disch := omega) only [up2_ne, fil_ne]), (by simp (disch := omega) only [up2_ne, fil_ne]), (by simp (disch := omega) only [up2_ne, fil_ne])⟩ (fun i9 hi9 => ⟨(by simp (disch := omega) only [up2_ne, up2_p, fil_ne, fil_p]), (by simp (disch := omega) only [up2_ne, up2_p, fil_ne, fil_p]), (by simp (disch := omega) only [up2_ne, up2_p, fil_ne, fil_p])⟩) (hI.2.2.1), wish_c ⟨(by simp (disch := omega) only [up2_ne, fil_ne]), (by simp (disch := omega) only [up2_ne, fil_ne]), (by simp (disch := omega) only [up2_ne, fil_ne]), (by simp (disch := omega) only [up2_ne, fil_ne])⟩ (fun i9 hi9 => ⟨(by simp (disch := omega) only [up2_ne, fil_ne]), (by simp (disch := omega) only [up2_ne, fil_ne]), (by simp (disch := omega) only [up2_ne, fil_ne])⟩) (hI.2.2.2.1), tape_c (by simp (disch := omega) only [up2_ne, up2_p, fil_ne, fil_p]) (by simp (disch := omega) only [up2_ne, up2_p, fil_ne, fil_p]) (by simp (disch := omega) only [up2_ne, fil_ne]) (by simp (disch := omega) only [up2_ne, fil_ne]) (hI.2.2.2.2.1), hT, led_c (by simp (disch := omega) only [up2_ne, up2_p, fil_ne, fil_p]) (by simp (disch := omega) only [up2_ne, up2_p, fil_ne, fil_p]) (fun i9 hi9 => (by simp (disch := omega) only [up2_ne, fil_ne])) (fun c9 hc9 hd9 => (by simp (disch := omega) only [up2_ne, fil_ne])) ⟨(by simp (disch := omega) only [up2_ne, fil_ne]), (by simp (disch := omega) only [up2_ne, fil_ne])⟩ (hI.2.2.2.2.2.2.1), row_c (by simp (disch := omega) only [up2_ne, fil_ne]) (by simp (disch := omega) only [up2_ne, fil_ne]) (hI.2.2.2.2.2.2.2.1), sheet_c ⟨(by simp (disch := omega) only [up2_ne, fil_ne]), (by simp (disch := omega) only [up2_ne, fil_ne]), (by simp (disch := omega) only [up2_ne, fil_ne])⟩ (fun s9 hs9 => ⟨(by simp (disch := omega) only [up2_ne, fil_ne]), (by simp (disch := omega) only [up2_ne, fil_ne])⟩) (hI.2.2.2.2.2.2.2.2.1), grp_c (by simp (disch := omega) only [up2_ne, up2_p, fil_ne, fil_p]) (fun g9 hg9 => (by simp (disch := omega) only [up2_ne, fil_ne])) (fun i9 hi9 => ⟨(by simp (disch := omega) only [up2_ne, fil_ne]), (by simp (disch := omega) only [up2_ne, fil_ne])⟩) (hI.2.2.2.2.2.2.2.2.2)⟩
theorem addM_ne {M : MM} {w c : Nat} {kd st pr z : Int32} (h : ¬ (c = 73 ∨ c = 75 ∨ c = 76 ∨ c = 77)) : addM M w kd st pr z c = M c := by
  unfold addM; simp (disch := omega) only [up2_ne]
theorem ofW_c {M M' : MM} {w : Nat} {i : Int32} (h : M' 100 = M 100) : ofW M' w i ↔ ofW M w i := by
  unfold ofW isOf; rw [h]
/-- all of Inv but the talk -/
theorem inv9 {M M' : MM} {R : Nat → Nat → Nat} (hI : Inv (M, R)) (h : ∀ c, c ≠ 74 → M' c = M c) : I_own M' ∧ I_coin M' ∧ I_lev M' ∧ I_wish M' ∧ I_tape M' ∧ True ∧ I_led M' ∧ I_row M' ∧ I_sheet M' ∧ I_grp M' := by
  obtain ⟨i1, i2, i3, i4, i5, i6, i7, i8, i9, i10⟩ := hI
  exact ⟨own_c (h _ (by omega)) (fun i hi => congrFun (h _ (by omega)) 0) i1, coin_c (h _ (by omega)) (fun i hi => congrFun (h _ (by omega)) 1) i2, lev_c ⟨h _ (by omega), h _ (by omega), h _ (by omega)⟩ (fun i hi => ⟨congrFun (h _ (by omega)) 2, congrFun (h _ (by omega)) 3, congrFun (h _ (by omega)) 4⟩) i3, wish_c ⟨h _ (by omega), h _ (by omega), h _ (by omega), h _ (by omega)⟩ (fun i hi => ⟨h _ (by omega), h _ (by omega), h _ (by omega)⟩) i4, tape_c (congrFun (h _ (by omega)) 1) (congrFun (h _ (by omega)) 10) (h _ (by omega)) (h _ (by omega)) i5, trivial, led_c (congrFun (h _ (by omega)) 2) (congrFun (h _ (by omega)) 37) (fun i hi => h _ (by omega)) (fun c a b => h _ (by omega)) ⟨h _ (by omega), h _ (by omega)⟩ i7, row_c (h _ (by omega)) (h _ (by omega)) i8, sheet_c ⟨h _ (by omega), h _ (by omega), h _ (by omega)⟩ (fun s hs => ⟨h _ (by omega), h _ (by omega)⟩) i9, grp_c (congrFun (h _ (by omega)) 1) (fun g hg => h _ (by omega)) (fun i hi => ⟨h _ (by omega), h _ (by omega)⟩) i10⟩

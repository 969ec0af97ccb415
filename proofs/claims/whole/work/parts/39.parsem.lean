/-! reading a WISH: the model -/
def MR (i : Nat) (μ μ' : Mm) : Prop := (∀ c j, ¬ (c = 86 ∧ j = 11) → ¬ ((c = 97 ∨ c = 98 ∨ c = 99) ∧ j = i) → μ'.1 c j = μ.1 c j) ∧ μ'.2 = μ.2
theorem MR.rf {i : Nat} {μ : Mm} : MR i μ μ := ⟨fun _ _ _ _ => rfl, rfl⟩
theorem MR.pl {i p : Nat} {μ μ' μ'' : Mm} (h : MR i μ μ') (h' : PL 86 11 μ' μ'' p) : MR i μ μ'' := ⟨fun c j h1 h2 => (h'.1 c j h1).trans (h.1 c j h1 h2), h'.2.1.trans h.2⟩
theorem MR.up {i a f : Nat} {v : Int32} {μ μ' : Mm} (h : MR i μ μ') (ha : (a = 86 ∧ f = 11) ∨ ((a = 97 ∨ a = 98 ∨ a = 99) ∧ f = i)) : MR i μ (up2 μ'.1 a f v, μ'.2) := ⟨fun c j h1 h2 => (up2_p (by omega)).trans (h.1 c j h1 h2), h.2⟩
theorem TR {i n : Nat} {b : Nat → Nat} {μ μ' : Mm} (h : TG μ.1 86 10 96 b n) (hr : MR i μ μ') : TG μ'.1 86 10 96 b n := h.c (hr.1 86 10 (by omega) (by omega)) (fun j => hr.1 96 j (by omega) (by omega))
theorem dF_no {b : Nat → Nat} {n q : Nat} (h : ¬ dg (ch b n q)) (v : Nat) : dF b n (n - q) q v = (q, v) := by
  cases hq : n - q with
  | zero => rfl
  | succ f =>
    unfold dF
    rw [if_neg (fun z => h (by rw [ch_b z.1]; exact z.2))]
theorem dF_gt {b : Nat → Nat} {n q : Nat} (h : dg (ch b n q)) : q + 1 ≤ (dF b n (n - q) q 0).1 := by
  have hq : q < n := ch_n (b := b) (by have := h.1; omega)
  rw [ch_b hq] at h
  rw [show n - q = (n - (q + 1)) + 1 by omega]
  unfold dF
  rw [if_pos ⟨hq, h⟩]
  exact (dF_p (b := b) (n := n) _ (q + 1) _ (by omega) (by omega)).1
def rlV (v w : Nat) : Prop := (v = w ∧ v ≤ 99) ∨ (99 < v ∧ 99 < w ∧ w ≤ 999)
theorem vls {ls v : Int32} (h : ls = 0 ∨ ls = 1) : (ls = 0 ∧ (if ls = 1 then -v else v) = v) ∨ (ls = 1 ∧ (if ls = 1 then -v else v) = -v) := by
  rcases h with h | h
  · exact Or.inl ⟨h, if_neg (by rw [h]; decide)⟩
  · exact Or.inr ⟨h, if_pos h⟩
section PARSEM
variable {X : aX} {μ : Mm} {Q : Option Value → Mm → Prop} {n : Nat} {b : Nat → Nat}
theorem l_digM {r : Nat × Nat} {cc fs : Int32} (hT : TG μ.1 86 10 96 b n) (k : ∀ μ' w, PL 86 11 μ μ' r.1 → rlV r.2 w → ∀ L : aL, aL_get L 0 = some (.ref 86) → aL_get L 1 = some (.int cc) → aL_get L 2 = some (.int fs) → aL_get L 3 = some (.int (nI w)) → WP X mX12_readNumber 86 L [] μ' Q) : ∀ (g p v w : Nat), n - p = g → p ≤ n → v ≤ 100 → rlV v w → dF b n g p v = r → ∀ μ', PL 86 11 μ μ' p → ∀ L : aL, aL_get L 0 = some (.ref 86) → aL_get L 1 = some (.int cc) → aL_get L 2 = some (.int fs) → aL_get L 3 = some (.int (nI w)) → WP X mX12_readNumber 12 L [] μ' Q
  | 0, p, v, w, hg, hp, hv, hw, hr, μ', hP, L, g0, g1, g2, g3 => by
    have hsz := (TM hT hP).2.2.1
    have hn := hT.1
    unfold dF at hr
    subst hr
    refine wp_aload_n (pc := 12) dX12_readNumber_12 (by first | rfl | assumption | (repeat first | assumption | rfl | refine aG_n ?_ rfl rfl)) ?_
    refine wp_getI (pc := 13) dX12_readNumber_13 fl_12_164 (by first | rfl | assumption | exact sh_house (by omega) | exact sh_wish (by omega) | exact sh_wor (by omega) | exact sh_bar (by omega) | exact sh_term (by omega) | exact sh_sheet (by omega) | exact sh_items (by omega) | exact sh_sums (by omega)) rfl ?_
    refine wp_aload_n (pc := 16) dX12_readNumber_16 (by first | rfl | assumption | (repeat first | assumption | rfl | refine aG_n ?_ rfl rfl)) ?_
    refine wp_getI (pc := 17) dX12_readNumber_17 fl_12_161 (by first | rfl | assumption | exact sh_house (by omega) | exact sh_wish (by omega) | exact sh_wor (by omega) | exact sh_bar (by omega) | exact sh_term (by omega) | exact sh_sheet (by omega) | exact sh_items (by omega) | exact sh_sums (by omega)) rfl ?_
    refine wp_icmp_ge (pc := 20) (tgt := 86) dX12_readNumber_20 rfl (fun _ => ?_) (fun q => absurd (by rw [hsz, hP.2.2]; exact nI_le (by omega) (by omega)) q)
    exact k _ w hP hw _ g0 g1 g2 g3
  | g + 1, p, v, w, hg, hp, hv, hw, hr, μ', hP, L, g0, g1, g2, g3 => by
    have hT' := TM hT hP
    have hsz := hT'.2.2.1
    have hn := hT.1
    have hpn : p < n := by omega
    have cp : (nI p).toNatClampNeg = p := nI_clamp (by omega)
    have hbp := hT'.2.2.2 p hpn
    have h126 := hT.2.1 p hpn
    have ecI := chI_b hT.2.1 hpn
    unfold dF at hr
    by_cases c : dg (b p)
    · rw [if_pos ⟨hpn, c⟩] at hr
      have e1 := dgt_e (v := w) c.1
      by_cases c9 : w ≤ 99
      · refine wp_aload_n (pc := 12) dX12_readNumber_12 (by first | rfl | assumption | (repeat first | assumption | rfl | refine aG_n ?_ rfl rfl)) ?_
        refine wp_getI (pc := 13) dX12_readNumber_13 fl_12_164 (by first | rfl | assumption | exact sh_house (by omega) | exact sh_wish (by omega) | exact sh_wor (by omega) | exact sh_bar (by omega) | exact sh_term (by omega) | exact sh_sheet (by omega) | exact sh_items (by omega) | exact sh_sums (by omega)) rfl ?_
        refine wp_aload_n (pc := 16) dX12_readNumber_16 (by first | rfl | assumption | (repeat first | assumption | rfl | refine aG_n ?_ rfl rfl)) ?_
        refine wp_getI (pc := 17) dX12_readNumber_17 fl_12_161 (by first | rfl | assumption | exact sh_house (by omega) | exact sh_wish (by omega) | exact sh_wor (by omega) | exact sh_bar (by omega) | exact sh_term (by omega) | exact sh_sheet (by omega) | exact sh_items (by omega) | exact sh_sums (by omega)) rfl ?_
        refine wp_icmp_ge (pc := 20) (tgt := 86) dX12_readNumber_20 rfl (fun q => absurd q (by rw [hsz, hP.2.2]; exact nI_ge (by omega) (by omega))) (fun _ => ?_)
        refine wp_aload_n (pc := 23) dX12_readNumber_23 (by first | rfl | assumption | (repeat first | assumption | rfl | refine aG_n ?_ rfl rfl)) ?_
        refine wp_getR (pc := 24) dX12_readNumber_24 fl_12_38 (by first | rfl | assumption | exact sh_house (by omega) | exact sh_wish (by omega) | exact sh_wor (by omega) | exact sh_bar (by omega) | exact sh_term (by omega) | exact sh_sheet (by omega) | exact sh_items (by omega) | exact sh_sums (by omega)) rfl ?_
        refine wp_aload_n (pc := 27) dX12_readNumber_27 (by first | rfl | assumption | (repeat first | assumption | rfl | refine aG_n ?_ rfl rfl)) ?_
        refine wp_getI (pc := 28) dX12_readNumber_28 fl_12_164 (by first | rfl | assumption | exact sh_house (by omega) | exact sh_wish (by omega) | exact sh_wor (by omega) | exact sh_bar (by omega) | exact sh_term (by omega) | exact sh_sheet (by omega) | exact sh_items (by omega) | exact sh_sums (by omega)) rfl ?_
        refine wp_iald (pc := 31) dX12_readNumber_31 (by first | rfl | assumption | exact sh_house (by omega) | exact sh_wish (by omega) | exact sh_wor (by omega) | exact sh_bar (by omega) | exact sh_term (by omega) | exact sh_sheet (by omega) | exact sh_items (by omega) | exact sh_sums (by omega)) (by rw [hP.2.2]; exact vp_in_nI (by omega) (by decide)) ?_
        refine wp_i2l (pc := 32) dX12_readNumber_32 ?_
        refine wp_ldc2 (pc := 33) dX12_readNumber_33 cl_12_175 ?_
        refine wp_ldc2 (pc := 36) dX12_readNumber_36 cl_12_177 ?_
        refine wp_cS (pc := 39) dX12_readNumber_39 lk_12_133 rfl rfl rfl (c_X12_in (fun _ => aK_i ?_) (fun q => absurd (by rw [hP.2.2, cp, hbp, ← ecI]; exact (in_dg _ (by omega)).mpr c) q))
        refine wp_if_eq (pc := 42) (tgt := 86) dX12_readNumber_42 rfl (fun q => absurd q (by decide)) (fun _ => ?_)
        refine wp_iload_n (pc := 45) dX12_readNumber_45 (by first | rfl | assumption | (repeat first | assumption | rfl | refine aG_n ?_ rfl rfl)) ?_
        refine wp_bipush (pc := 46) (v := 99) dX12_readNumber_46 (by decide) ?_
        refine wp_icmp_le (pc := 48) (tgt := 55) dX12_readNumber_48 rfl (fun _ => ?_) (fun q => absurd (nI_le (b := 99) (by omega) (by omega)) q)
        refine wp_bipush (pc := 55) (v := 10) dX12_readNumber_55 (by decide) ?_
        refine wp_iload_n (pc := 57) dX12_readNumber_57 (by first | rfl | assumption | (repeat first | assumption | rfl | refine aG_n ?_ rfl rfl)) ?_
        refine wp_imul (pc := 58) dX12_readNumber_58 ?_
        refine wp_aload_n (pc := 59) dX12_readNumber_59 (by first | rfl | assumption | (repeat first | assumption | rfl | refine aG_n ?_ rfl rfl)) ?_
        refine wp_getR (pc := 60) dX12_readNumber_60 fl_12_38 (by first | rfl | assumption | exact sh_house (by omega) | exact sh_wish (by omega) | exact sh_wor (by omega) | exact sh_bar (by omega) | exact sh_term (by omega) | exact sh_sheet (by omega) | exact sh_items (by omega) | exact sh_sums (by omega)) rfl ?_
        refine wp_aload_n (pc := 63) dX12_readNumber_63 (by first | rfl | assumption | (repeat first | assumption | rfl | refine aG_n ?_ rfl rfl)) ?_
        refine wp_getI (pc := 64) dX12_readNumber_64 fl_12_164 (by first | rfl | assumption | exact sh_house (by omega) | exact sh_wish (by omega) | exact sh_wor (by omega) | exact sh_bar (by omega) | exact sh_term (by omega) | exact sh_sheet (by omega) | exact sh_items (by omega) | exact sh_sums (by omega)) rfl ?_
        refine wp_iald (pc := 67) dX12_readNumber_67 (by first | rfl | assumption | exact sh_house (by omega) | exact sh_wish (by omega) | exact sh_wor (by omega) | exact sh_bar (by omega) | exact sh_term (by omega) | exact sh_sheet (by omega) | exact sh_items (by omega) | exact sh_sums (by omega)) (by rw [hP.2.2]; exact vp_in_nI (by omega) (by decide)) ?_
        refine wp_iadd (pc := 68) dX12_readNumber_68 ?_
        refine wp_bipush (pc := 69) (v := 48) dX12_readNumber_69 (by decide) ?_
        refine wp_isub (pc := 71) dX12_readNumber_71 ?_
        refine wp_istore_n (pc := 72) dX12_readNumber_72 (by decide) ?_
        refine wp_aload_n (pc := 73) dX12_readNumber_73 (by first | rfl | assumption | (repeat first | assumption | rfl | refine aG_n ?_ rfl rfl)) ?_
        refine wp_dupr (pc := 74) dX12_readNumber_74 ?_
        refine wp_getI (pc := 75) dX12_readNumber_75 fl_12_164 (by first | rfl | assumption | exact sh_house (by omega) | exact sh_wish (by omega) | exact sh_wor (by omega) | exact sh_bar (by omega) | exact sh_term (by omega) | exact sh_sheet (by omega) | exact sh_items (by omega) | exact sh_sums (by omega)) rfl ?_
        refine wp_iconst (pc := 78) (v := 1) dX12_readNumber_78 (by decide) ?_
        refine wp_iadd (pc := 79) dX12_readNumber_79 ?_
        refine wp_putI (pc := 80) dX12_readNumber_80 fl_12_164 (by first | rfl | assumption | exact sh_house (by omega) | exact sh_wish (by omega) | exact sh_wor (by omega) | exact sh_bar (by omega) | exact sh_term (by omega) | exact sh_sheet (by omega) | exact sh_items (by omega) | exact sh_sums (by omega)) rfl rfl rfl ?_
        refine wp_goto (pc := 83) (tgt := 12) dX12_readNumber_83 rfl ?_
        skip
        rw [hP.2.2, nI_1]
        refine l_digM hT k g (p + 1) (min (10 * v + b p - 48) 100) (10 * w + b p - 48) (by omega) (by omega) (by omega) ?_ hr _ (hP.up rfl) _ (by first | rfl | assumption | (repeat first | assumption | rfl | refine aG_n ?_ rfl rfl)) (by first | rfl | assumption | (repeat first | assumption | rfl | refine aG_n ?_ rfl rfl)) (by first | rfl | assumption | (repeat first | assumption | rfl | refine aG_n ?_ rfl rfl)) (by rw [← e1, ← hbp, ← cp]; simp only [cp]; first | rfl | assumption | (repeat first | assumption | rfl | refine aG_n ?_ rfl rfl))
        unfold rlV at hw ⊢
        have := c.1; have := c.2
        omega
      · refine wp_aload_n (pc := 12) dX12_readNumber_12 (by first | rfl | assumption | (repeat first | assumption | rfl | refine aG_n ?_ rfl rfl)) ?_
        refine wp_getI (pc := 13) dX12_readNumber_13 fl_12_164 (by first | rfl | assumption | exact sh_house (by omega) | exact sh_wish (by omega) | exact sh_wor (by omega) | exact sh_bar (by omega) | exact sh_term (by omega) | exact sh_sheet (by omega) | exact sh_items (by omega) | exact sh_sums (by omega)) rfl ?_
        refine wp_aload_n (pc := 16) dX12_readNumber_16 (by first | rfl | assumption | (repeat first | assumption | rfl | refine aG_n ?_ rfl rfl)) ?_
        refine wp_getI (pc := 17) dX12_readNumber_17 fl_12_161 (by first | rfl | assumption | exact sh_house (by omega) | exact sh_wish (by omega) | exact sh_wor (by omega) | exact sh_bar (by omega) | exact sh_term (by omega) | exact sh_sheet (by omega) | exact sh_items (by omega) | exact sh_sums (by omega)) rfl ?_
        refine wp_icmp_ge (pc := 20) (tgt := 86) dX12_readNumber_20 rfl (fun q => absurd q (by rw [hsz, hP.2.2]; exact nI_ge (by omega) (by omega))) (fun _ => ?_)
        refine wp_aload_n (pc := 23) dX12_readNumber_23 (by first | rfl | assumption | (repeat first | assumption | rfl | refine aG_n ?_ rfl rfl)) ?_
        refine wp_getR (pc := 24) dX12_readNumber_24 fl_12_38 (by first | rfl | assumption | exact sh_house (by omega) | exact sh_wish (by omega) | exact sh_wor (by omega) | exact sh_bar (by omega) | exact sh_term (by omega) | exact sh_sheet (by omega) | exact sh_items (by omega) | exact sh_sums (by omega)) rfl ?_
        refine wp_aload_n (pc := 27) dX12_readNumber_27 (by first | rfl | assumption | (repeat first | assumption | rfl | refine aG_n ?_ rfl rfl)) ?_
        refine wp_getI (pc := 28) dX12_readNumber_28 fl_12_164 (by first | rfl | assumption | exact sh_house (by omega) | exact sh_wish (by omega) | exact sh_wor (by omega) | exact sh_bar (by omega) | exact sh_term (by omega) | exact sh_sheet (by omega) | exact sh_items (by omega) | exact sh_sums (by omega)) rfl ?_
        refine wp_iald (pc := 31) dX12_readNumber_31 (by first | rfl | assumption | exact sh_house (by omega) | exact sh_wish (by omega) | exact sh_wor (by omega) | exact sh_bar (by omega) | exact sh_term (by omega) | exact sh_sheet (by omega) | exact sh_items (by omega) | exact sh_sums (by omega)) (by rw [hP.2.2]; exact vp_in_nI (by omega) (by decide)) ?_
        refine wp_i2l (pc := 32) dX12_readNumber_32 ?_
        refine wp_ldc2 (pc := 33) dX12_readNumber_33 cl_12_175 ?_
        refine wp_ldc2 (pc := 36) dX12_readNumber_36 cl_12_177 ?_
        refine wp_cS (pc := 39) dX12_readNumber_39 lk_12_133 rfl rfl rfl (c_X12_in (fun _ => aK_i ?_) (fun q => absurd (by rw [hP.2.2, cp, hbp, ← ecI]; exact (in_dg _ (by omega)).mpr c) q))
        refine wp_if_eq (pc := 42) (tgt := 86) dX12_readNumber_42 rfl (fun q => absurd q (by decide)) (fun _ => ?_)
        refine wp_iload_n (pc := 45) dX12_readNumber_45 (by first | rfl | assumption | (repeat first | assumption | rfl | refine aG_n ?_ rfl rfl)) ?_
        refine wp_bipush (pc := 46) (v := 99) dX12_readNumber_46 (by decide) ?_
        refine wp_icmp_le (pc := 48) (tgt := 55) dX12_readNumber_48 rfl (fun q => absurd q (nI_ge (a := 99) (by omega) (by unfold rlV at hw; omega))) (fun _ => ?_)
        refine wp_iload_n (pc := 51) dX12_readNumber_51 (by first | rfl | assumption | (repeat first | assumption | rfl | refine aG_n ?_ rfl rfl)) ?_
        refine wp_goto (pc := 52) (tgt := 72) dX12_readNumber_52 rfl ?_
        refine wp_istore_n (pc := 72) dX12_readNumber_72 (by decide) ?_
        refine wp_aload_n (pc := 73) dX12_readNumber_73 (by first | rfl | assumption | (repeat first | assumption | rfl | refine aG_n ?_ rfl rfl)) ?_
        refine wp_dupr (pc := 74) dX12_readNumber_74 ?_
        refine wp_getI (pc := 75) dX12_readNumber_75 fl_12_164 (by first | rfl | assumption | exact sh_house (by omega) | exact sh_wish (by omega) | exact sh_wor (by omega) | exact sh_bar (by omega) | exact sh_term (by omega) | exact sh_sheet (by omega) | exact sh_items (by omega) | exact sh_sums (by omega)) rfl ?_
        refine wp_iconst (pc := 78) (v := 1) dX12_readNumber_78 (by decide) ?_
        refine wp_iadd (pc := 79) dX12_readNumber_79 ?_
        refine wp_putI (pc := 80) dX12_readNumber_80 fl_12_164 (by first | rfl | assumption | exact sh_house (by omega) | exact sh_wish (by omega) | exact sh_wor (by omega) | exact sh_bar (by omega) | exact sh_term (by omega) | exact sh_sheet (by omega) | exact sh_items (by omega) | exact sh_sums (by omega)) rfl rfl rfl ?_
        refine wp_goto (pc := 83) (tgt := 12) dX12_readNumber_83 rfl ?_
        skip
        rw [hP.2.2, nI_1]
        refine l_digM hT k g (p + 1) (min (10 * v + b p - 48) 100) w (by omega) (by omega) (by omega) ?_ hr _ (hP.up rfl) _ (by first | rfl | assumption | (repeat first | assumption | rfl | refine aG_n ?_ rfl rfl)) (by first | rfl | assumption | (repeat first | assumption | rfl | refine aG_n ?_ rfl rfl)) (by first | rfl | assumption | (repeat first | assumption | rfl | refine aG_n ?_ rfl rfl)) (by first | rfl | assumption | (repeat first | assumption | rfl | refine aG_n ?_ rfl rfl))
        unfold rlV at hw ⊢
        have := c.1; have := c.2
        omega
    · rw [if_neg (fun z => c z.2)] at hr
      subst hr
      refine wp_aload_n (pc := 12) dX12_readNumber_12 (by first | rfl | assumption | (repeat first | assumption | rfl | refine aG_n ?_ rfl rfl)) ?_
      refine wp_getI (pc := 13) dX12_readNumber_13 fl_12_164 (by first | rfl | assumption | exact sh_house (by omega) | exact sh_wish (by omega) | exact sh_wor (by omega) | exact sh_bar (by omega) | exact sh_term (by omega) | exact sh_sheet (by omega) | exact sh_items (by omega) | exact sh_sums (by omega)) rfl ?_
      refine wp_aload_n (pc := 16) dX12_readNumber_16 (by first | rfl | assumption | (repeat first | assumption | rfl | refine aG_n ?_ rfl rfl)) ?_
      refine wp_getI (pc := 17) dX12_readNumber_17 fl_12_161 (by first | rfl | assumption | exact sh_house (by omega) | exact sh_wish (by omega) | exact sh_wor (by omega) | exact sh_bar (by omega) | exact sh_term (by omega) | exact sh_sheet (by omega) | exact sh_items (by omega) | exact sh_sums (by omega)) rfl ?_
      refine wp_icmp_ge (pc := 20) (tgt := 86) dX12_readNumber_20 rfl (fun q => absurd q (by rw [hsz, hP.2.2]; exact nI_ge (by omega) (by omega))) (fun _ => ?_)
      refine wp_aload_n (pc := 23) dX12_readNumber_23 (by first | rfl | assumption | (repeat first | assumption | rfl | refine aG_n ?_ rfl rfl)) ?_
      refine wp_getR (pc := 24) dX12_readNumber_24 fl_12_38 (by first | rfl | assumption | exact sh_house (by omega) | exact sh_wish (by omega) | exact sh_wor (by omega) | exact sh_bar (by omega) | exact sh_term (by omega) | exact sh_sheet (by omega) | exact sh_items (by omega) | exact sh_sums (by omega)) rfl ?_
      refine wp_aload_n (pc := 27) dX12_readNumber_27 (by first | rfl | assumption | (repeat first | assumption | rfl | refine aG_n ?_ rfl rfl)) ?_
      refine wp_getI (pc := 28) dX12_readNumber_28 fl_12_164 (by first | rfl | assumption | exact sh_house (by omega) | exact sh_wish (by omega) | exact sh_wor (by omega) | exact sh_bar (by omega) | exact sh_term (by omega) | exact sh_sheet (by omega) | exact sh_items (by omega) | exact sh_sums (by omega)) rfl ?_
      refine wp_iald (pc := 31) dX12_readNumber_31 (by first | rfl | assumption | exact sh_house (by omega) | exact sh_wish (by omega) | exact sh_wor (by omega) | exact sh_bar (by omega) | exact sh_term (by omega) | exact sh_sheet (by omega) | exact sh_items (by omega) | exact sh_sums (by omega)) (by rw [hP.2.2]; exact vp_in_nI (by omega) (by decide)) ?_
      refine wp_i2l (pc := 32) dX12_readNumber_32 ?_
      refine wp_ldc2 (pc := 33) dX12_readNumber_33 cl_12_175 ?_
      refine wp_ldc2 (pc := 36) dX12_readNumber_36 cl_12_177 ?_
      refine wp_cS (pc := 39) dX12_readNumber_39 lk_12_133 rfl rfl rfl (c_X12_in (fun q => absurd q (by rw [hP.2.2, cp, hbp, ← ecI]; exact fun z => c ((in_dg _ (by omega)).mp z))) (fun _ => aK_i ?_))
      refine wp_if_eq (pc := 42) (tgt := 86) dX12_readNumber_42 rfl (fun _ => ?_) (fun q => absurd q (by decide))
      exact k _ w hP hw _ g0 g1 g2 g3
theorem c_X12_readNumber {q : Nat} (hT : TG μ.1 86 10 96 b n) (hq : q ≤ n) (hP : μ.1 86 11 = nI q) (kf : ¬ (dg (ch b n (nx b n q)) ∧ (dF b n (n - nx b n q) (nx b n q) 0).2 ≤ 99) → ∀ μ', PL 86 11 μ μ' (nx b n q) → Q (some (.int (-1))) μ') (kt : (dg (ch b n (nx b n q)) ∧ (dF b n (n - nx b n q) (nx b n q) 0).2 ≤ 99) → ∀ μ', PL 86 11 μ μ' (dF b n (n - nx b n q) (nx b n q) 0).1 → Q (some (.int (nI (dF b n (n - nx b n q) (nx b n q) 0).2))) μ') : WP X mX12_readNumber 0 (lv_args 0 [.ref 86]) [] μ Q := by
  have hc := ch_lt (p := nx b n q) hT.2.1
  have hn := hT.1
  have hx := nx_le (b := b) hq
  obtain ⟨d1, d2, d3⟩ := dF_p (b := b) (n := n) (n - nx b n q) (nx b n q) 0 hx (by decide)
  have hk : ∀ μ3 w, PL 86 11 μ μ3 (dF b n (n - nx b n q) (nx b n q) 0).1 → rlV (dF b n (n - nx b n q) (nx b n q) 0).2 w → ∀ L : aL, aL_get L 0 = some (.ref 86) → aL_get L 1 = some (.int (chI (ch b n (nx b n q)))) → aL_get L 2 = some (.int (nI (nx b n q))) → aL_get L 3 = some (.int (nI w)) → WP X mX12_readNumber 86 L [] μ3 Q := by
    intro μ3 w h3 hw L g0 g1 g2 g3
    by_cases c : dg (ch b n (nx b n q))
    · have hgt := dF_gt c
      have hcn : ¬ ch b n (nx b n q) = 0 := by have := c.1; omega
      by_cases c9 : (dF b n (n - nx b n q) (nx b n q) 0).2 ≤ 99
      · have ew : (dF b n (n - nx b n q) (nx b n q) 0).2 = w := by unfold rlV at hw; omega
        subst ew
        refine wp_iload_n (pc := 86) dX12_readNumber_86 (by first | rfl | assumption | (repeat first | assumption | rfl | refine aG_n ?_ rfl rfl)) ?_
        refine wp_if_lt (pc := 87) (tgt := 104) dX12_readNumber_87 rfl (fun q => absurd q (fun z => hcn ((chI_neg _ hc).mp z))) (fun _ => ?_)
        refine wp_aload_n (pc := 90) dX12_readNumber_90 (by first | rfl | assumption | (repeat first | assumption | rfl | refine aG_n ?_ rfl rfl)) ?_
        refine wp_getI (pc := 91) dX12_readNumber_91 fl_12_164 (by first | rfl | assumption | exact sh_house (by omega) | exact sh_wish (by omega) | exact sh_wor (by omega) | exact sh_bar (by omega) | exact sh_term (by omega) | exact sh_sheet (by omega) | exact sh_items (by omega) | exact sh_sums (by omega)) rfl ?_
        refine wp_iload_n (pc := 94) dX12_readNumber_94 (by first | rfl | assumption | (repeat first | assumption | rfl | refine aG_n ?_ rfl rfl)) ?_
        refine wp_icmp_eq (pc := 95) (tgt := 104) dX12_readNumber_95 rfl (fun q => absurd q (by rw [h3.2.2, nI_eq (by omega) (by omega)]; omega)) (fun _ => ?_)
        refine wp_iload_n (pc := 98) dX12_readNumber_98 (by first | rfl | assumption | (repeat first | assumption | rfl | refine aG_n ?_ rfl rfl)) ?_
        refine wp_bipush (pc := 99) (v := 99) dX12_readNumber_99 (by decide) ?_
        refine wp_icmp_le (pc := 101) (tgt := 111) dX12_readNumber_101 rfl (fun _ => ?_) (fun q => absurd (nI_le (b := 99) (by omega) (by omega)) q)
        refine wp_iload_n (pc := 111) dX12_readNumber_111 (by first | rfl | assumption | (repeat first | assumption | rfl | refine aG_n ?_ rfl rfl)) ?_
        refine wp_ireturn (pc := 112) dX12_readNumber_112 rfl (by first | rfl | decide | assumption) ?_
        exact kt ⟨c, c9⟩ _ h3
      · refine wp_iload_n (pc := 86) dX12_readNumber_86 (by first | rfl | assumption | (repeat first | assumption | rfl | refine aG_n ?_ rfl rfl)) ?_
        refine wp_if_lt (pc := 87) (tgt := 104) dX12_readNumber_87 rfl (fun q => absurd q (fun z => hcn ((chI_neg _ hc).mp z))) (fun _ => ?_)
        refine wp_aload_n (pc := 90) dX12_readNumber_90 (by first | rfl | assumption | (repeat first | assumption | rfl | refine aG_n ?_ rfl rfl)) ?_
        refine wp_getI (pc := 91) dX12_readNumber_91 fl_12_164 (by first | rfl | assumption | exact sh_house (by omega) | exact sh_wish (by omega) | exact sh_wor (by omega) | exact sh_bar (by omega) | exact sh_term (by omega) | exact sh_sheet (by omega) | exact sh_items (by omega) | exact sh_sums (by omega)) rfl ?_
        refine wp_iload_n (pc := 94) dX12_readNumber_94 (by first | rfl | assumption | (repeat first | assumption | rfl | refine aG_n ?_ rfl rfl)) ?_
        refine wp_icmp_eq (pc := 95) (tgt := 104) dX12_readNumber_95 rfl (fun q => absurd q (by rw [h3.2.2, nI_eq (by omega) (by omega)]; omega)) (fun _ => ?_)
        refine wp_iload_n (pc := 98) dX12_readNumber_98 (by first | rfl | assumption | (repeat first | assumption | rfl | refine aG_n ?_ rfl rfl)) ?_
        refine wp_bipush (pc := 99) (v := 99) dX12_readNumber_99 (by decide) ?_
        refine wp_icmp_le (pc := 101) (tgt := 111) dX12_readNumber_101 rfl (fun q => absurd q (nI_ge (a := 99) (by unfold rlV at hw; omega) (by unfold rlV at hw; omega))) (fun _ => ?_)
        refine wp_aload_n (pc := 104) dX12_readNumber_104 (by first | rfl | assumption | (repeat first | assumption | rfl | refine aG_n ?_ rfl rfl)) ?_
        refine wp_iload_n (pc := 105) dX12_readNumber_105 (by first | rfl | assumption | (repeat first | assumption | rfl | refine aG_n ?_ rfl rfl)) ?_
        refine wp_putI (pc := 106) dX12_readNumber_106 fl_12_164 (by first | rfl | assumption | exact sh_house (by omega) | exact sh_wish (by omega) | exact sh_wor (by omega) | exact sh_bar (by omega) | exact sh_term (by omega) | exact sh_sheet (by omega) | exact sh_items (by omega) | exact sh_sums (by omega)) rfl rfl rfl ?_
        refine wp_iconst (pc := 109) (v := -1) dX12_readNumber_109 (by decide) ?_
        refine wp_ireturn (pc := 110) dX12_readNumber_110 rfl (by first | rfl | decide | assumption) ?_
        exact kf (fun z => c9 z.2) _ (h3.up rfl)
    · rw [dF_no c] at h3
      by_cases hcn : ch b n (nx b n q) = 0
      · refine wp_iload_n (pc := 86) dX12_readNumber_86 (by first | rfl | assumption | (repeat first | assumption | rfl | refine aG_n ?_ rfl rfl)) ?_
        refine wp_if_lt (pc := 87) (tgt := 104) dX12_readNumber_87 rfl (fun _ => ?_) (fun q => absurd ((chI_neg _ hc).mpr hcn) q)
        refine wp_aload_n (pc := 104) dX12_readNumber_104 (by first | rfl | assumption | (repeat first | assumption | rfl | refine aG_n ?_ rfl rfl)) ?_
        refine wp_iload_n (pc := 105) dX12_readNumber_105 (by first | rfl | assumption | (repeat first | assumption | rfl | refine aG_n ?_ rfl rfl)) ?_
        refine wp_putI (pc := 106) dX12_readNumber_106 fl_12_164 (by first | rfl | assumption | exact sh_house (by omega) | exact sh_wish (by omega) | exact sh_wor (by omega) | exact sh_bar (by omega) | exact sh_term (by omega) | exact sh_sheet (by omega) | exact sh_items (by omega) | exact sh_sums (by omega)) rfl rfl rfl ?_
        refine wp_iconst (pc := 109) (v := -1) dX12_readNumber_109 (by decide) ?_
        refine wp_ireturn (pc := 110) dX12_readNumber_110 rfl (by first | rfl | decide | assumption) ?_
        exact kf (fun z => c z.1) _ (h3.up rfl)
      · refine wp_iload_n (pc := 86) dX12_readNumber_86 (by first | rfl | assumption | (repeat first | assumption | rfl | refine aG_n ?_ rfl rfl)) ?_
        refine wp_if_lt (pc := 87) (tgt := 104) dX12_readNumber_87 rfl (fun q => absurd q (fun z => hcn ((chI_neg _ hc).mp z))) (fun _ => ?_)
        refine wp_aload_n (pc := 90) dX12_readNumber_90 (by first | rfl | assumption | (repeat first | assumption | rfl | refine aG_n ?_ rfl rfl)) ?_
        refine wp_getI (pc := 91) dX12_readNumber_91 fl_12_164 (by first | rfl | assumption | exact sh_house (by omega) | exact sh_wish (by omega) | exact sh_wor (by omega) | exact sh_bar (by omega) | exact sh_term (by omega) | exact sh_sheet (by omega) | exact sh_items (by omega) | exact sh_sums (by omega)) rfl ?_
        refine wp_iload_n (pc := 94) dX12_readNumber_94 (by first | rfl | assumption | (repeat first | assumption | rfl | refine aG_n ?_ rfl rfl)) ?_
        refine wp_icmp_eq (pc := 95) (tgt := 104) dX12_readNumber_95 rfl (fun _ => ?_) (fun q => absurd h3.2.2 q)
        refine wp_aload_n (pc := 104) dX12_readNumber_104 (by first | rfl | assumption | (repeat first | assumption | rfl | refine aG_n ?_ rfl rfl)) ?_
        refine wp_iload_n (pc := 105) dX12_readNumber_105 (by first | rfl | assumption | (repeat first | assumption | rfl | refine aG_n ?_ rfl rfl)) ?_
        refine wp_putI (pc := 106) dX12_readNumber_106 fl_12_164 (by first | rfl | assumption | exact sh_house (by omega) | exact sh_wish (by omega) | exact sh_wor (by omega) | exact sh_bar (by omega) | exact sh_term (by omega) | exact sh_sheet (by omega) | exact sh_items (by omega) | exact sh_sums (by omega)) rfl rfl rfl ?_
        refine wp_iconst (pc := 109) (v := -1) dX12_readNumber_109 (by decide) ?_
        refine wp_ireturn (pc := 110) dX12_readNumber_110 rfl (by first | rfl | decide | assumption) ?_
        exact kf (fun z => c z.1) _ (h3.up rfl)
  refine wp_aload_n (pc := 0) dX12_readNumber_0 (by first | rfl | assumption | (repeat first | assumption | rfl | refine aG_n ?_ rfl rfl)) ?_
  refine wp_cV (pc := 1) dX12_readNumber_1 lk_12_167 rfl (by decide) rfl (by first | rfl | assumption | exact sh_house (by omega) | exact sh_wish (by omega) | exact sh_wor (by omega) | exact sh_bar (by omega) | exact sh_term (by omega) | exact sh_sheet (by omega) | exact sh_items (by omega) | exact sh_sums (by omega)) rfl rfl ?_
  refine c_X12_next hT hq hP (fun μ2 h2 => aK_i ?_)
  refine wp_istore_n (pc := 4) dX12_readNumber_4 (by decide) ?_
  refine wp_aload_n (pc := 5) dX12_readNumber_5 (by first | rfl | assumption | (repeat first | assumption | rfl | refine aG_n ?_ rfl rfl)) ?_
  refine wp_getI (pc := 6) dX12_readNumber_6 fl_12_164 (by first | rfl | assumption | exact sh_house (by omega) | exact sh_wish (by omega) | exact sh_wor (by omega) | exact sh_bar (by omega) | exact sh_term (by omega) | exact sh_sheet (by omega) | exact sh_items (by omega) | exact sh_sums (by omega)) rfl ?_
  refine wp_istore_n (pc := 9) dX12_readNumber_9 (by decide) ?_
  refine wp_iconst (pc := 10) (v := 0) dX12_readNumber_10 (by decide) ?_
  refine wp_istore_n (pc := 11) dX12_readNumber_11 (by decide) ?_
  skip
  rw [h2.2.2]
  exact l_digM hT hk _ _ 0 0 rfl hx (by decide) (Or.inl ⟨rfl, by decide⟩) rfl _ h2 _ (by first | rfl | assumption | (repeat first | assumption | rfl | refine aG_n ?_ rfl rfl)) (by first | rfl | assumption | (repeat first | assumption | rfl | refine aG_n ?_ rfl rfl)) (by first | rfl | assumption | (repeat first | assumption | rfl | refine aG_n ?_ rfl rfl)) (by first | rfl | assumption | (repeat first | assumption | rfl | refine aG_n ?_ rfl rfl))
theorem l_mrc130 {i : Nat} {v ls V : Int32} (hi : i < 12) (hls : (ls = 0 ∧ V = v) ∨ (ls = 1 ∧ V = -v)) (k0 : v < 0 → Q (some (.int 0)) (up2 μ.1 98 i V, μ.2)) (k1 : ¬ v < 0 → Q (some (.int 1)) (up2 μ.1 98 i V, μ.2)) (L : aL) (g0 : aL_get L 0 = some (.ref 86)) (g1 : aL_get L 1 = some (.int (nI i))) (g2 : aL_get L 2 = some (.int ls)) : WP X mX12_readClause 130 L [.int v] μ Q := by
  have ci : (nI i).toNatClampNeg = i := nI_clamp (by omega)
  rw [← ci] at k0 k1
  simp only [ci] at k0 k1
  rcases hls with ⟨rfl, rfl⟩ | ⟨rfl, rfl⟩
  · by_cases c : V < 0
    · refine wp_istore_n (pc := 130) dX12_readClause_130 (by decide) ?_
      refine wp_aload_n (pc := 131) dX12_readClause_131 (by first | rfl | assumption | (repeat first | assumption | rfl | refine aG_n ?_ rfl rfl)) ?_
      refine wp_getR (pc := 132) dX12_readClause_132 fl_12_44 (by first | rfl | assumption | exact sh_house (by omega) | exact sh_wish (by omega) | exact sh_wor (by omega) | exact sh_bar (by omega) | exact sh_term (by omega) | exact sh_sheet (by omega) | exact sh_items (by omega) | exact sh_sums (by omega)) rfl ?_
      refine wp_iload_n (pc := 135) dX12_readClause_135 (by first | rfl | assumption | (repeat first | assumption | rfl | refine aG_n ?_ rfl rfl)) ?_
      refine wp_iload_n (pc := 136) dX12_readClause_136 (by first | rfl | assumption | (repeat first | assumption | rfl | refine aG_n ?_ rfl rfl)) ?_
      refine wp_if_eq (pc := 137) (tgt := 145) dX12_readClause_137 rfl (fun _ => ?_) (fun q => absurd rfl q)
      refine wp_iload_n (pc := 145) dX12_readClause_145 (by first | rfl | assumption | (repeat first | assumption | rfl | refine aG_n ?_ rfl rfl)) ?_
      refine wp_iast (pc := 146) dX12_readClause_146 (by first | rfl | assumption | exact sh_house (by omega) | exact sh_wish (by omega) | exact sh_wor (by omega) | exact sh_bar (by omega) | exact sh_term (by omega) | exact sh_sheet (by omega) | exact sh_items (by omega) | exact sh_sums (by omega)) (vp_in_nI (by omega) (by decide)) ?_
      refine wp_iload_n (pc := 147) dX12_readClause_147 (by first | rfl | assumption | (repeat first | assumption | rfl | refine aG_n ?_ rfl rfl)) ?_
      refine wp_if_lt (pc := 148) (tgt := 155) dX12_readClause_148 rfl (fun _ => ?_) (fun q => absurd c q)
      refine wp_iconst (pc := 155) (v := 0) dX12_readClause_155 (by decide) ?_
      refine wp_ireturn (pc := 156) dX12_readClause_156 rfl (by first | rfl | decide | assumption) ?_
      rw [ci]; exact k0 c
    · refine wp_istore_n (pc := 130) dX12_readClause_130 (by decide) ?_
      refine wp_aload_n (pc := 131) dX12_readClause_131 (by first | rfl | assumption | (repeat first | assumption | rfl | refine aG_n ?_ rfl rfl)) ?_
      refine wp_getR (pc := 132) dX12_readClause_132 fl_12_44 (by first | rfl | assumption | exact sh_house (by omega) | exact sh_wish (by omega) | exact sh_wor (by omega) | exact sh_bar (by omega) | exact sh_term (by omega) | exact sh_sheet (by omega) | exact sh_items (by omega) | exact sh_sums (by omega)) rfl ?_
      refine wp_iload_n (pc := 135) dX12_readClause_135 (by first | rfl | assumption | (repeat first | assumption | rfl | refine aG_n ?_ rfl rfl)) ?_
      refine wp_iload_n (pc := 136) dX12_readClause_136 (by first | rfl | assumption | (repeat first | assumption | rfl | refine aG_n ?_ rfl rfl)) ?_
      refine wp_if_eq (pc := 137) (tgt := 145) dX12_readClause_137 rfl (fun _ => ?_) (fun q => absurd rfl q)
      refine wp_iload_n (pc := 145) dX12_readClause_145 (by first | rfl | assumption | (repeat first | assumption | rfl | refine aG_n ?_ rfl rfl)) ?_
      refine wp_iast (pc := 146) dX12_readClause_146 (by first | rfl | assumption | exact sh_house (by omega) | exact sh_wish (by omega) | exact sh_wor (by omega) | exact sh_bar (by omega) | exact sh_term (by omega) | exact sh_sheet (by omega) | exact sh_items (by omega) | exact sh_sums (by omega)) (vp_in_nI (by omega) (by decide)) ?_
      refine wp_iload_n (pc := 147) dX12_readClause_147 (by first | rfl | assumption | (repeat first | assumption | rfl | refine aG_n ?_ rfl rfl)) ?_
      refine wp_if_lt (pc := 148) (tgt := 155) dX12_readClause_148 rfl (fun q => absurd q c) (fun _ => ?_)
      refine wp_iconst (pc := 151) (v := 1) dX12_readClause_151 (by decide) ?_
      refine wp_goto (pc := 152) (tgt := 156) dX12_readClause_152 rfl ?_
      refine wp_ireturn (pc := 156) dX12_readClause_156 rfl (by first | rfl | decide | assumption) ?_
      rw [ci]; exact k1 c
  · by_cases c : v < 0
    · refine wp_istore_n (pc := 130) dX12_readClause_130 (by decide) ?_
      refine wp_aload_n (pc := 131) dX12_readClause_131 (by first | rfl | assumption | (repeat first | assumption | rfl | refine aG_n ?_ rfl rfl)) ?_
      refine wp_getR (pc := 132) dX12_readClause_132 fl_12_44 (by first | rfl | assumption | exact sh_house (by omega) | exact sh_wish (by omega) | exact sh_wor (by omega) | exact sh_bar (by omega) | exact sh_term (by omega) | exact sh_sheet (by omega) | exact sh_items (by omega) | exact sh_sums (by omega)) rfl ?_
      refine wp_iload_n (pc := 135) dX12_readClause_135 (by first | rfl | assumption | (repeat first | assumption | rfl | refine aG_n ?_ rfl rfl)) ?_
      refine wp_iload_n (pc := 136) dX12_readClause_136 (by first | rfl | assumption | (repeat first | assumption | rfl | refine aG_n ?_ rfl rfl)) ?_
      refine wp_if_eq (pc := 137) (tgt := 145) dX12_readClause_137 rfl (fun q => absurd q (by decide)) (fun _ => ?_)
      refine wp_iload_n (pc := 140) dX12_readClause_140 (by first | rfl | assumption | (repeat first | assumption | rfl | refine aG_n ?_ rfl rfl)) ?_
      refine wp_ineg (pc := 141) dX12_readClause_141 ?_
      refine wp_goto (pc := 142) (tgt := 146) dX12_readClause_142 rfl ?_
      refine wp_iast (pc := 146) dX12_readClause_146 (by first | rfl | assumption | exact sh_house (by omega) | exact sh_wish (by omega) | exact sh_wor (by omega) | exact sh_bar (by omega) | exact sh_term (by omega) | exact sh_sheet (by omega) | exact sh_items (by omega) | exact sh_sums (by omega)) (vp_in_nI (by omega) (by decide)) ?_
      refine wp_iload_n (pc := 147) dX12_readClause_147 (by first | rfl | assumption | (repeat first | assumption | rfl | refine aG_n ?_ rfl rfl)) ?_
      refine wp_if_lt (pc := 148) (tgt := 155) dX12_readClause_148 rfl (fun _ => ?_) (fun q => absurd c q)
      refine wp_iconst (pc := 155) (v := 0) dX12_readClause_155 (by decide) ?_
      refine wp_ireturn (pc := 156) dX12_readClause_156 rfl (by first | rfl | decide | assumption) ?_
      rw [ci]; exact k0 c
    · refine wp_istore_n (pc := 130) dX12_readClause_130 (by decide) ?_
      refine wp_aload_n (pc := 131) dX12_readClause_131 (by first | rfl | assumption | (repeat first | assumption | rfl | refine aG_n ?_ rfl rfl)) ?_
      refine wp_getR (pc := 132) dX12_readClause_132 fl_12_44 (by first | rfl | assumption | exact sh_house (by omega) | exact sh_wish (by omega) | exact sh_wor (by omega) | exact sh_bar (by omega) | exact sh_term (by omega) | exact sh_sheet (by omega) | exact sh_items (by omega) | exact sh_sums (by omega)) rfl ?_
      refine wp_iload_n (pc := 135) dX12_readClause_135 (by first | rfl | assumption | (repeat first | assumption | rfl | refine aG_n ?_ rfl rfl)) ?_
      refine wp_iload_n (pc := 136) dX12_readClause_136 (by first | rfl | assumption | (repeat first | assumption | rfl | refine aG_n ?_ rfl rfl)) ?_
      refine wp_if_eq (pc := 137) (tgt := 145) dX12_readClause_137 rfl (fun q => absurd q (by decide)) (fun _ => ?_)
      refine wp_iload_n (pc := 140) dX12_readClause_140 (by first | rfl | assumption | (repeat first | assumption | rfl | refine aG_n ?_ rfl rfl)) ?_
      refine wp_ineg (pc := 141) dX12_readClause_141 ?_
      refine wp_goto (pc := 142) (tgt := 146) dX12_readClause_142 rfl ?_
      refine wp_iast (pc := 146) dX12_readClause_146 (by first | rfl | assumption | exact sh_house (by omega) | exact sh_wish (by omega) | exact sh_wor (by omega) | exact sh_bar (by omega) | exact sh_term (by omega) | exact sh_sheet (by omega) | exact sh_items (by omega) | exact sh_sums (by omega)) (vp_in_nI (by omega) (by decide)) ?_
      refine wp_iload_n (pc := 147) dX12_readClause_147 (by first | rfl | assumption | (repeat first | assumption | rfl | refine aG_n ?_ rfl rfl)) ?_
      refine wp_if_lt (pc := 148) (tgt := 155) dX12_readClause_148 rfl (fun q => absurd q c) (fun _ => ?_)
      refine wp_iconst (pc := 151) (v := 1) dX12_readClause_151 (by decide) ?_
      refine wp_goto (pc := 152) (tgt := 156) dX12_readClause_152 rfl ?_
      refine wp_ireturn (pc := 156) dX12_readClause_156 rfl (by first | rfl | decide | assumption) ?_
      rw [ci]; exact k1 c
/-- a number is read -/
theorem l_mrc93 {i p : Nat} (hi : i < 12) (hT : TG μ.1 86 10 96 b n) (hp : p ≤ n) (hP : μ.1 86 11 = nI (nx b n p)) (kf : ¬ nOk b n p → ∀ μ', MR i μ μ' → μ'.1 86 11 = nI (nQ b n p) → Q (some (.int 0)) μ') (kt : nOk b n p → ∀ μ', MR i μ μ' → μ'.1 86 11 = nI (nD b n p).1 → μ'.1 97 i = μ.1 97 i → μ'.1 98 i = nV b n p → μ'.1 99 i = μ.1 99 i → Q (some (.int 1)) μ') (L : aL) (g0 : aL_get L 0 = some (.ref 86)) (g1 : aL_get L 1 = some (.int (nI i))) : WP X mX12_readClause 93 L [] μ Q := by
  have hc := ch_lt (p := nx b n p) hT.2.1
  have hn := hT.1
  have hnot : ¬ ((-1 : Int32) < 0) → False := fun z => z (by decide)
  have pk : ∀ w, w ≤ 99 → ¬ nI w < 0 := fun w hw => nI_pos (by omega)
  unfold nOk nD nQ at kf
  unfold nOk nV at kt
  unfold nD at kt
  unfold nQ at kt
  have fin : ∀ (q : Nat) (ls : Int32) (μ2 : Mm), q ≤ n → (ls = 0 ∨ ls = 1) → PL 86 11 μ μ2 q → (¬ (dg (ch b n (nx b n q)) ∧ (dF b n (n - nx b n q) (nx b n q) 0).2 ≤ 99) → ∀ μ', MR i μ μ' → μ'.1 86 11 = nI (nx b n q) → Q (some (.int 0)) μ') → (dg (ch b n (nx b n q)) ∧ (dF b n (n - nx b n q) (nx b n q) 0).2 ≤ 99 → ∀ μ', MR i μ μ' → μ'.1 86 11 = nI (dF b n (n - nx b n q) (nx b n q) 0).1 → μ'.1 97 i = μ.1 97 i → μ'.1 98 i = (if ls = 1 then -(nI (dF b n (n - nx b n q) (nx b n q) 0).2) else nI (dF b n (n - nx b n q) (nx b n q) 0).2) → μ'.1 99 i = μ.1 99 i → Q (some (.int 1)) μ') → ∀ L : aL, aL_get L 0 = some (.ref 86) → aL_get L 1 = some (.int (nI i)) → aL_get L 2 = some (.int ls) → WP X mX12_readClause 126 L [] μ2 Q := by
    intro q ls μ2 hq hls h2 kf kt L g0 g1 g2
    refine wp_aload_n (pc := 126) dX12_readClause_126 (by first | rfl | assumption | (repeat first | assumption | rfl | refine aG_n ?_ rfl rfl)) ?_
    refine wp_cV (pc := 127) dX12_readClause_127 lk_12_182 rfl (by decide) rfl (by first | rfl | assumption | exact sh_house (by omega) | exact sh_wish (by omega) | exact sh_wor (by omega) | exact sh_bar (by omega) | exact sh_term (by omega) | exact sh_sheet (by omega) | exact sh_items (by omega) | exact sh_sums (by omega)) rfl rfl ?_
    refine c_X12_readNumber (TM hT h2) hq h2.2.2 (fun nk μ3 h3 => aK_i ?_) (fun ok μ3 h3 => aK_i ?_)
    · have hh := h2.trans h3
      refine l_mrc130 (V := if ls = 1 then -(-1) else -1) hi (vls hls) (fun _ => kf nk _ ((MR.rf.pl hh).up (by omega)) ?_) (fun z => (hnot z).elim) _ (by first | rfl | assumption | (repeat first | assumption | rfl | refine aG_n ?_ rfl rfl)) (by first | rfl | assumption | (repeat first | assumption | rfl | refine aG_n ?_ rfl rfl)) (by first | rfl | assumption | (repeat first | assumption | rfl | refine aG_n ?_ rfl rfl))
      dsimp only; rw [up2_ne (by omega)]; exact hh.2.2
    · have hh := h2.trans h3
      refine l_mrc130 (V := if ls = 1 then -(nI (dF b n (n - nx b n q) (nx b n q) 0).2) else nI (dF b n (n - nx b n q) (nx b n q) 0).2) hi (vls hls) (fun z => absurd z (pk _ ok.2)) (fun _ => kt ok _ ((MR.rf.pl hh).up (by omega)) ?_ ?_ ?_ ?_) _ (by first | rfl | assumption | (repeat first | assumption | rfl | refine aG_n ?_ rfl rfl)) (by first | rfl | assumption | (repeat first | assumption | rfl | refine aG_n ?_ rfl rfl)) (by first | rfl | assumption | (repeat first | assumption | rfl | refine aG_n ?_ rfl rfl))
      · dsimp only; rw [up2_ne (by omega)]; exact hh.2.2
      · dsimp only; rw [up2_ne (by omega)]; exact hh.1 97 i (by omega)
      · dsimp only; exact up2_at
      · dsimp only; rw [up2_ne (by omega)]; exact hh.1 99 i (by omega)
  by_cases c : nL b n p = true
  · have hx := nL_n c
    simp only [if_pos c] at kf kt
    refine wp_aload_n (pc := 93) dX12_readClause_93 (by first | rfl | assumption | (repeat first | assumption | rfl | refine aG_n ?_ rfl rfl)) ?_
    refine wp_cV (pc := 94) dX12_readClause_94 lk_12_167 rfl (by decide) rfl (by first | rfl | assumption | exact sh_house (by omega) | exact sh_wish (by omega) | exact sh_wor (by omega) | exact sh_bar (by omega) | exact sh_term (by omega) | exact sh_sheet (by omega) | exact sh_items (by omega) | exact sh_sums (by omega)) rfl rfl ?_
    refine c_X12_next hT (nx_le hp) hP (fun μ2 h2 => ?_)
    rw [nx_i] at h2 ⊢
    refine aK_i ?_
    refine wp_bipush (pc := 97) (v := 45) dX12_readClause_97 (by decide) ?_
    refine wp_icmp_ne (pc := 99) (tgt := 106) dX12_readClause_99 rfl (fun q => absurd ((chI_45 hc).mpr (of_decide_eq_true c)) q) (fun _ => ?_)
    refine wp_iconst (pc := 102) (v := 1) dX12_readClause_102 (by decide) ?_
    refine wp_goto (pc := 103) (tgt := 107) dX12_readClause_103 rfl ?_
    refine wp_istore_n (pc := 107) dX12_readClause_107 (by decide) ?_
    refine wp_aload_n (pc := 108) dX12_readClause_108 (by first | rfl | assumption | (repeat first | assumption | rfl | refine aG_n ?_ rfl rfl)) ?_
    refine wp_dupr (pc := 109) dX12_readClause_109 ?_
    refine wp_getI (pc := 110) dX12_readClause_110 fl_12_164 (by first | rfl | assumption | exact sh_house (by omega) | exact sh_wish (by omega) | exact sh_wor (by omega) | exact sh_bar (by omega) | exact sh_term (by omega) | exact sh_sheet (by omega) | exact sh_items (by omega) | exact sh_sums (by omega)) rfl ?_
    refine wp_iload_n (pc := 113) dX12_readClause_113 (by first | rfl | assumption | (repeat first | assumption | rfl | refine aG_n ?_ rfl rfl)) ?_
    refine wp_if_eq (pc := 114) (tgt := 121) dX12_readClause_114 rfl (fun q => absurd q (by decide)) (fun _ => ?_)
    refine wp_iconst (pc := 117) (v := 1) dX12_readClause_117 (by decide) ?_
    refine wp_goto (pc := 118) (tgt := 122) dX12_readClause_118 rfl ?_
    refine wp_iadd (pc := 122) dX12_readClause_122 ?_
    refine wp_putI (pc := 123) dX12_readClause_123 fl_12_164 (by first | rfl | assumption | exact sh_house (by omega) | exact sh_wish (by omega) | exact sh_wor (by omega) | exact sh_bar (by omega) | exact sh_term (by omega) | exact sh_sheet (by omega) | exact sh_items (by omega) | exact sh_sums (by omega)) rfl rfl rfl ?_
    exact fin _ 1 _ (by omega) (Or.inr rfl) (h2.up (by rw [h2.2.2, nI_1])) kf kt _ (by first | rfl | assumption | (repeat first | assumption | rfl | refine aG_n ?_ rfl rfl)) (by first | rfl | assumption | (repeat first | assumption | rfl | refine aG_n ?_ rfl rfl)) (by first | rfl | assumption | (repeat first | assumption | rfl | refine aG_n ?_ rfl rfl))
  · simp only [if_neg c] at kf kt
    refine wp_aload_n (pc := 93) dX12_readClause_93 (by first | rfl | assumption | (repeat first | assumption | rfl | refine aG_n ?_ rfl rfl)) ?_
    refine wp_cV (pc := 94) dX12_readClause_94 lk_12_167 rfl (by decide) rfl (by first | rfl | assumption | exact sh_house (by omega) | exact sh_wish (by omega) | exact sh_wor (by omega) | exact sh_bar (by omega) | exact sh_term (by omega) | exact sh_sheet (by omega) | exact sh_items (by omega) | exact sh_sums (by omega)) rfl rfl ?_
    refine c_X12_next hT (nx_le hp) hP (fun μ2 h2 => ?_)
    rw [nx_i] at h2 ⊢
    refine aK_i ?_
    refine wp_bipush (pc := 97) (v := 45) dX12_readClause_97 (by decide) ?_
    refine wp_icmp_ne (pc := 99) (tgt := 106) dX12_readClause_99 rfl (fun _ => ?_) (fun q => absurd q (fun z => c (decide_eq_true ((chI_45 hc).mp z))))
    refine wp_iconst (pc := 106) (v := 0) dX12_readClause_106 (by decide) ?_
    refine wp_istore_n (pc := 107) dX12_readClause_107 (by decide) ?_
    refine wp_aload_n (pc := 108) dX12_readClause_108 (by first | rfl | assumption | (repeat first | assumption | rfl | refine aG_n ?_ rfl rfl)) ?_
    refine wp_dupr (pc := 109) dX12_readClause_109 ?_
    refine wp_getI (pc := 110) dX12_readClause_110 fl_12_164 (by first | rfl | assumption | exact sh_house (by omega) | exact sh_wish (by omega) | exact sh_wor (by omega) | exact sh_bar (by omega) | exact sh_term (by omega) | exact sh_sheet (by omega) | exact sh_items (by omega) | exact sh_sums (by omega)) rfl ?_
    refine wp_iload_n (pc := 113) dX12_readClause_113 (by first | rfl | assumption | (repeat first | assumption | rfl | refine aG_n ?_ rfl rfl)) ?_
    refine wp_if_eq (pc := 114) (tgt := 121) dX12_readClause_114 rfl (fun _ => ?_) (fun q => absurd q (by decide))
    refine wp_iconst (pc := 121) (v := 0) dX12_readClause_121 (by decide) ?_
    refine wp_iadd (pc := 122) dX12_readClause_122 ?_
    refine wp_putI (pc := 123) dX12_readClause_123 fl_12_164 (by first | rfl | assumption | exact sh_house (by omega) | exact sh_wish (by omega) | exact sh_wor (by omega) | exact sh_bar (by omega) | exact sh_term (by omega) | exact sh_sheet (by omega) | exact sh_items (by omega) | exact sh_sums (by omega)) rfl rfl rfl ?_
    exact fin _ 0 _ (nx_le hp) (Or.inl rfl) (h2.up (by rw [h2.2.2, Int32.add_zero])) kf kt _ (by first | rfl | assumption | (repeat first | assumption | rfl | refine aG_n ?_ rfl rfl)) (by first | rfl | assumption | (repeat first | assumption | rfl | refine aG_n ?_ rfl rfl)) (by first | rfl | assumption | (repeat first | assumption | rfl | refine aG_n ?_ rfl rfl))
/-- behind a '!' -/
theorem l_mrc43 {i q : Nat} {br : Bool} (hi : i < 12) (hT : TG μ.1 86 10 96 b n) (hq : q ≤ n) (kf : ¬ (¬ (lF b n 6 q 0).2 = 0 ∧ (br = true ∨ nOk b n (lF b n 6 q 0).1)) → ∀ μ', MR i μ μ' → μ'.1 86 11 = nI (if (lF b n 6 q 0).2 = 0 then (lF b n 6 q 0).1 else nQ b n (lF b n 6 q 0).1) → Q (some (.int 0)) μ') (kt : (¬ (lF b n 6 q 0).2 = 0 ∧ (br = true ∨ nOk b n (lF b n 6 q 0).1)) → ∀ μ' x, MR i μ μ' → x ≤ n → nx b n x = nx b n (if br = true then (lF b n 6 q 0).1 else (nD b n (lF b n 6 q 0).1).1) → μ'.1 86 11 = nI x → μ'.1 97 i = nI (lF b n 6 q 0).2 → μ'.1 98 i = (if br = true then 0 else nV b n (lF b n 6 q 0).1) → μ'.1 99 i = b2i br → Q (some (.int 1)) μ') (μ' : Mm) (hM : MR i μ μ') (hP : μ'.1 86 11 = nI q) (h99 : μ'.1 99 i = b2i br) (L : aL) (g0 : aL_get L 0 = some (.ref 86)) (g1 : aL_get L 1 = some (.int (nI i))) : WP X mX12_readClause 43 L [] μ' Q := by
  have hn := hT.1
  have ci : (nI i).toNatClampNeg = i := nI_clamp (by omega)
  obtain ⟨l1, l2, -⟩ := lF_p (b := b) hT.2.1 6 q 0 hq (by decide)
  have lz := lF_0 (b := b) (p := q) hT.2.1 hq 5
  obtain ⟨r, hr⟩ : ∃ r, lF b n 6 q 0 = r := ⟨_, rfl⟩
  rw [hr] at kf kt l1 l2 lz
  by_cases z : r.2 = 0
  · rw [if_pos z] at kf
    have e1 : nx b n r.1 = r.1 := by rw [lz z]; exact nx_i
    refine wp_aload_n (pc := 43) dX12_readClause_43 (by first | rfl | assumption | (repeat first | assumption | rfl | refine aG_n ?_ rfl rfl)) ?_
    refine wp_getR (pc := 44) dX12_readClause_44 fl_12_41 (by first | rfl | assumption | exact sh_house (by omega) | exact sh_wish (by omega) | exact sh_wor (by omega) | exact sh_bar (by omega) | exact sh_term (by omega) | exact sh_sheet (by omega) | exact sh_items (by omega) | exact sh_sums (by omega)) rfl ?_
    refine wp_iload_n (pc := 47) dX12_readClause_47 (by first | rfl | assumption | (repeat first | assumption | rfl | refine aG_n ?_ rfl rfl)) ?_
    refine wp_aload_n (pc := 48) dX12_readClause_48 (by first | rfl | assumption | (repeat first | assumption | rfl | refine aG_n ?_ rfl rfl)) ?_
    refine wp_cV (pc := 49) dX12_readClause_49 lk_12_179 rfl (by decide) rfl (by first | rfl | assumption | exact sh_house (by omega) | exact sh_wish (by omega) | exact sh_wor (by omega) | exact sh_bar (by omega) | exact sh_term (by omega) | exact sh_sheet (by omega) | exact sh_items (by omega) | exact sh_sums (by omega)) rfl rfl ?_
    refine c_X12_readLetters (TR hT hM) hq hP (fun μ2 h2 => ?_)
    rw [hr] at h2 ⊢
    refine aK_i ?_
    refine wp_iast (pc := 52) dX12_readClause_52 (by first | rfl | assumption | exact sh_house (by omega) | exact sh_wish (by omega) | exact sh_wor (by omega) | exact sh_bar (by omega) | exact sh_term (by omega) | exact sh_sheet (by omega) | exact sh_items (by omega) | exact sh_sums (by omega)) (vp_in_nI (by omega) (by decide)) ?_
    refine wp_aload_n (pc := 53) dX12_readClause_53 (by first | rfl | assumption | (repeat first | assumption | rfl | refine aG_n ?_ rfl rfl)) ?_
    refine wp_getR (pc := 54) dX12_readClause_54 fl_12_44 (by first | rfl | assumption | exact sh_house (by omega) | exact sh_wish (by omega) | exact sh_wor (by omega) | exact sh_bar (by omega) | exact sh_term (by omega) | exact sh_sheet (by omega) | exact sh_items (by omega) | exact sh_sums (by omega)) rfl ?_
    refine wp_iload_n (pc := 57) dX12_readClause_57 (by first | rfl | assumption | (repeat first | assumption | rfl | refine aG_n ?_ rfl rfl)) ?_
    refine wp_iconst (pc := 58) (v := 0) dX12_readClause_58 (by decide) ?_
    refine wp_iast (pc := 59) dX12_readClause_59 (by first | rfl | assumption | exact sh_house (by omega) | exact sh_wish (by omega) | exact sh_wor (by omega) | exact sh_bar (by omega) | exact sh_term (by omega) | exact sh_sheet (by omega) | exact sh_items (by omega) | exact sh_sums (by omega)) (vp_in_nI (by omega) (by decide)) ?_
    refine wp_aload_n (pc := 60) dX12_readClause_60 (by first | rfl | assumption | (repeat first | assumption | rfl | refine aG_n ?_ rfl rfl)) ?_
    refine wp_getR (pc := 61) dX12_readClause_61 fl_12_41 (by first | rfl | assumption | exact sh_house (by omega) | exact sh_wish (by omega) | exact sh_wor (by omega) | exact sh_bar (by omega) | exact sh_term (by omega) | exact sh_sheet (by omega) | exact sh_items (by omega) | exact sh_sums (by omega)) rfl ?_
    refine wp_iload_n (pc := 64) dX12_readClause_64 (by first | rfl | assumption | (repeat first | assumption | rfl | refine aG_n ?_ rfl rfl)) ?_
    refine wp_iald (pc := 65) dX12_readClause_65 (by first | rfl | assumption | exact sh_house (by omega) | exact sh_wish (by omega) | exact sh_wor (by omega) | exact sh_bar (by omega) | exact sh_term (by omega) | exact sh_sheet (by omega) | exact sh_items (by omega) | exact sh_sums (by omega)) (vp_in_nI (by omega) (by decide)) ?_
    refine wp_if_eq (pc := 66) (tgt := 78) dX12_readClause_66 rfl (fun _ => ?_) (fun q => absurd (by dsimp only; rw [ci, up2_ne (by omega), up2_at, z]; rfl) q)
    refine wp_aload_n (pc := 78) dX12_readClause_78 (by first | rfl | assumption | (repeat first | assumption | rfl | refine aG_n ?_ rfl rfl)) ?_
    refine wp_getR (pc := 79) dX12_readClause_79 fl_12_41 (by first | rfl | assumption | exact sh_house (by omega) | exact sh_wish (by omega) | exact sh_wor (by omega) | exact sh_bar (by omega) | exact sh_term (by omega) | exact sh_sheet (by omega) | exact sh_items (by omega) | exact sh_sums (by omega)) rfl ?_
    refine wp_iload_n (pc := 82) dX12_readClause_82 (by first | rfl | assumption | (repeat first | assumption | rfl | refine aG_n ?_ rfl rfl)) ?_
    refine wp_iald (pc := 83) dX12_readClause_83 (by first | rfl | assumption | exact sh_house (by omega) | exact sh_wish (by omega) | exact sh_wor (by omega) | exact sh_bar (by omega) | exact sh_term (by omega) | exact sh_sheet (by omega) | exact sh_items (by omega) | exact sh_sums (by omega)) (vp_in_nI (by omega) (by decide)) ?_
    refine wp_if_le (pc := 84) (tgt := 91) dX12_readClause_84 rfl (fun _ => ?_) (fun q => absurd (by dsimp only; rw [ci, up2_ne (by omega), up2_at, z]; decide) q)
    refine wp_iconst (pc := 91) (v := 0) dX12_readClause_91 (by decide) ?_
    refine wp_ireturn (pc := 92) dX12_readClause_92 rfl (by first | rfl | decide | assumption) ?_
    skip
    rw [ci]
    refine kf (fun y => y.1 z) _ (((hM.pl h2).up (by omega)).up (by omega)) ?_
    dsimp only
    rw [up2_ne (by omega), up2_ne (by omega), h2.2.2, e1]
  · rw [if_neg z] at kf
    cases br with
    | true =>
      replace h99 : μ'.1 99 i = 1 := h99
      refine wp_aload_n (pc := 43) dX12_readClause_43 (by first | rfl | assumption | (repeat first | assumption | rfl | refine aG_n ?_ rfl rfl)) ?_
      refine wp_getR (pc := 44) dX12_readClause_44 fl_12_41 (by first | rfl | assumption | exact sh_house (by omega) | exact sh_wish (by omega) | exact sh_wor (by omega) | exact sh_bar (by omega) | exact sh_term (by omega) | exact sh_sheet (by omega) | exact sh_items (by omega) | exact sh_sums (by omega)) rfl ?_
      refine wp_iload_n (pc := 47) dX12_readClause_47 (by first | rfl | assumption | (repeat first | assumption | rfl | refine aG_n ?_ rfl rfl)) ?_
      refine wp_aload_n (pc := 48) dX12_readClause_48 (by first | rfl | assumption | (repeat first | assumption | rfl | refine aG_n ?_ rfl rfl)) ?_
      refine wp_cV (pc := 49) dX12_readClause_49 lk_12_179 rfl (by decide) rfl (by first | rfl | assumption | exact sh_house (by omega) | exact sh_wish (by omega) | exact sh_wor (by omega) | exact sh_bar (by omega) | exact sh_term (by omega) | exact sh_sheet (by omega) | exact sh_items (by omega) | exact sh_sums (by omega)) rfl rfl ?_
      refine c_X12_readLetters (TR hT hM) hq hP (fun μ2 h2 => ?_)
      rw [hr] at h2 ⊢
      refine aK_i ?_
      refine wp_iast (pc := 52) dX12_readClause_52 (by first | rfl | assumption | exact sh_house (by omega) | exact sh_wish (by omega) | exact sh_wor (by omega) | exact sh_bar (by omega) | exact sh_term (by omega) | exact sh_sheet (by omega) | exact sh_items (by omega) | exact sh_sums (by omega)) (vp_in_nI (by omega) (by decide)) ?_
      refine wp_aload_n (pc := 53) dX12_readClause_53 (by first | rfl | assumption | (repeat first | assumption | rfl | refine aG_n ?_ rfl rfl)) ?_
      refine wp_getR (pc := 54) dX12_readClause_54 fl_12_44 (by first | rfl | assumption | exact sh_house (by omega) | exact sh_wish (by omega) | exact sh_wor (by omega) | exact sh_bar (by omega) | exact sh_term (by omega) | exact sh_sheet (by omega) | exact sh_items (by omega) | exact sh_sums (by omega)) rfl ?_
      refine wp_iload_n (pc := 57) dX12_readClause_57 (by first | rfl | assumption | (repeat first | assumption | rfl | refine aG_n ?_ rfl rfl)) ?_
      refine wp_iconst (pc := 58) (v := 0) dX12_readClause_58 (by decide) ?_
      refine wp_iast (pc := 59) dX12_readClause_59 (by first | rfl | assumption | exact sh_house (by omega) | exact sh_wish (by omega) | exact sh_wor (by omega) | exact sh_bar (by omega) | exact sh_term (by omega) | exact sh_sheet (by omega) | exact sh_items (by omega) | exact sh_sums (by omega)) (vp_in_nI (by omega) (by decide)) ?_
      refine wp_aload_n (pc := 60) dX12_readClause_60 (by first | rfl | assumption | (repeat first | assumption | rfl | refine aG_n ?_ rfl rfl)) ?_
      refine wp_getR (pc := 61) dX12_readClause_61 fl_12_41 (by first | rfl | assumption | exact sh_house (by omega) | exact sh_wish (by omega) | exact sh_wor (by omega) | exact sh_bar (by omega) | exact sh_term (by omega) | exact sh_sheet (by omega) | exact sh_items (by omega) | exact sh_sums (by omega)) rfl ?_
      refine wp_iload_n (pc := 64) dX12_readClause_64 (by first | rfl | assumption | (repeat first | assumption | rfl | refine aG_n ?_ rfl rfl)) ?_
      refine wp_iald (pc := 65) dX12_readClause_65 (by first | rfl | assumption | exact sh_house (by omega) | exact sh_wish (by omega) | exact sh_wor (by omega) | exact sh_bar (by omega) | exact sh_term (by omega) | exact sh_sheet (by omega) | exact sh_items (by omega) | exact sh_sums (by omega)) (vp_in_nI (by omega) (by decide)) ?_
      refine wp_if_eq (pc := 66) (tgt := 78) dX12_readClause_66 rfl (fun q => absurd q (by dsimp only; rw [ci, up2_ne (by omega), up2_at]; exact nI_ne0 (by omega) (by omega))) (fun _ => ?_)
      refine wp_aload_n (pc := 69) dX12_readClause_69 (by first | rfl | assumption | (repeat first | assumption | rfl | refine aG_n ?_ rfl rfl)) ?_
      refine wp_getR (pc := 70) dX12_readClause_70 fl_12_47 (by first | rfl | assumption | exact sh_house (by omega) | exact sh_wish (by omega) | exact sh_wor (by omega) | exact sh_bar (by omega) | exact sh_term (by omega) | exact sh_sheet (by omega) | exact sh_items (by omega) | exact sh_sums (by omega)) rfl ?_
      refine wp_iload_n (pc := 73) dX12_readClause_73 (by first | rfl | assumption | (repeat first | assumption | rfl | refine aG_n ?_ rfl rfl)) ?_
      refine wp_zald (pc := 74) dX12_readClause_74 (by first | rfl | assumption | exact sh_house (by omega) | exact sh_wish (by omega) | exact sh_wor (by omega) | exact sh_bar (by omega) | exact sh_term (by omega) | exact sh_sheet (by omega) | exact sh_items (by omega) | exact sh_sums (by omega)) (vp_in_nI (by omega) (by decide)) ?_
      refine wp_if_eq (pc := 75) (tgt := 93) dX12_readClause_75 rfl (fun q => absurd q (by dsimp only; rw [ci, up2_ne (by omega), up2_ne (by omega), h2.1 99 i (by omega), h99]; decide)) (fun _ => ?_)
      refine wp_aload_n (pc := 78) dX12_readClause_78 (by first | rfl | assumption | (repeat first | assumption | rfl | refine aG_n ?_ rfl rfl)) ?_
      refine wp_getR (pc := 79) dX12_readClause_79 fl_12_41 (by first | rfl | assumption | exact sh_house (by omega) | exact sh_wish (by omega) | exact sh_wor (by omega) | exact sh_bar (by omega) | exact sh_term (by omega) | exact sh_sheet (by omega) | exact sh_items (by omega) | exact sh_sums (by omega)) rfl ?_
      refine wp_iload_n (pc := 82) dX12_readClause_82 (by first | rfl | assumption | (repeat first | assumption | rfl | refine aG_n ?_ rfl rfl)) ?_
      refine wp_iald (pc := 83) dX12_readClause_83 (by first | rfl | assumption | exact sh_house (by omega) | exact sh_wish (by omega) | exact sh_wor (by omega) | exact sh_bar (by omega) | exact sh_term (by omega) | exact sh_sheet (by omega) | exact sh_items (by omega) | exact sh_sums (by omega)) (vp_in_nI (by omega) (by decide)) ?_
      refine wp_if_le (pc := 84) (tgt := 91) dX12_readClause_84 rfl (fun q => absurd q (by dsimp only; rw [ci, up2_ne (by omega), up2_at]; exact nI_nle (by omega) (by omega))) (fun _ => ?_)
      refine wp_iconst (pc := 87) (v := 1) dX12_readClause_87 (by decide) ?_
      refine wp_goto (pc := 88) (tgt := 92) dX12_readClause_88 rfl ?_
      refine wp_ireturn (pc := 92) dX12_readClause_92 rfl (by first | rfl | decide | assumption) ?_
      skip
      rw [ci]
      refine kt ⟨z, Or.inl rfl⟩ _ _ (((hM.pl h2).up (by omega)).up (by omega)) (nx_le l1) (by rw [if_pos rfl]; exact nx_i) ?_ ?_ ?_ ?_
      · dsimp only; rw [up2_ne (by omega), up2_ne (by omega)]; exact h2.2.2
      · dsimp only; rw [up2_ne (by omega), up2_at]
      · dsimp only; rw [up2_at]; rfl
      · dsimp only; rw [up2_ne (by omega), up2_ne (by omega), h2.1 99 i (by omega), h99]; rfl
    | false =>
      have hb' : ¬ (false = true) := by decide
      replace h99 : μ'.1 99 i = 0 := h99
      refine wp_aload_n (pc := 43) dX12_readClause_43 (by first | rfl | assumption | (repeat first | assumption | rfl | refine aG_n ?_ rfl rfl)) ?_
      refine wp_getR (pc := 44) dX12_readClause_44 fl_12_41 (by first | rfl | assumption | exact sh_house (by omega) | exact sh_wish (by omega) | exact sh_wor (by omega) | exact sh_bar (by omega) | exact sh_term (by omega) | exact sh_sheet (by omega) | exact sh_items (by omega) | exact sh_sums (by omega)) rfl ?_
      refine wp_iload_n (pc := 47) dX12_readClause_47 (by first | rfl | assumption | (repeat first | assumption | rfl | refine aG_n ?_ rfl rfl)) ?_
      refine wp_aload_n (pc := 48) dX12_readClause_48 (by first | rfl | assumption | (repeat first | assumption | rfl | refine aG_n ?_ rfl rfl)) ?_
      refine wp_cV (pc := 49) dX12_readClause_49 lk_12_179 rfl (by decide) rfl (by first | rfl | assumption | exact sh_house (by omega) | exact sh_wish (by omega) | exact sh_wor (by omega) | exact sh_bar (by omega) | exact sh_term (by omega) | exact sh_sheet (by omega) | exact sh_items (by omega) | exact sh_sums (by omega)) rfl rfl ?_
      refine c_X12_readLetters (TR hT hM) hq hP (fun μ2 h2 => ?_)
      rw [hr] at h2 ⊢
      refine aK_i ?_
      refine wp_iast (pc := 52) dX12_readClause_52 (by first | rfl | assumption | exact sh_house (by omega) | exact sh_wish (by omega) | exact sh_wor (by omega) | exact sh_bar (by omega) | exact sh_term (by omega) | exact sh_sheet (by omega) | exact sh_items (by omega) | exact sh_sums (by omega)) (vp_in_nI (by omega) (by decide)) ?_
      refine wp_aload_n (pc := 53) dX12_readClause_53 (by first | rfl | assumption | (repeat first | assumption | rfl | refine aG_n ?_ rfl rfl)) ?_
      refine wp_getR (pc := 54) dX12_readClause_54 fl_12_44 (by first | rfl | assumption | exact sh_house (by omega) | exact sh_wish (by omega) | exact sh_wor (by omega) | exact sh_bar (by omega) | exact sh_term (by omega) | exact sh_sheet (by omega) | exact sh_items (by omega) | exact sh_sums (by omega)) rfl ?_
      refine wp_iload_n (pc := 57) dX12_readClause_57 (by first | rfl | assumption | (repeat first | assumption | rfl | refine aG_n ?_ rfl rfl)) ?_
      refine wp_iconst (pc := 58) (v := 0) dX12_readClause_58 (by decide) ?_
      refine wp_iast (pc := 59) dX12_readClause_59 (by first | rfl | assumption | exact sh_house (by omega) | exact sh_wish (by omega) | exact sh_wor (by omega) | exact sh_bar (by omega) | exact sh_term (by omega) | exact sh_sheet (by omega) | exact sh_items (by omega) | exact sh_sums (by omega)) (vp_in_nI (by omega) (by decide)) ?_
      refine wp_aload_n (pc := 60) dX12_readClause_60 (by first | rfl | assumption | (repeat first | assumption | rfl | refine aG_n ?_ rfl rfl)) ?_
      refine wp_getR (pc := 61) dX12_readClause_61 fl_12_41 (by first | rfl | assumption | exact sh_house (by omega) | exact sh_wish (by omega) | exact sh_wor (by omega) | exact sh_bar (by omega) | exact sh_term (by omega) | exact sh_sheet (by omega) | exact sh_items (by omega) | exact sh_sums (by omega)) rfl ?_
      refine wp_iload_n (pc := 64) dX12_readClause_64 (by first | rfl | assumption | (repeat first | assumption | rfl | refine aG_n ?_ rfl rfl)) ?_
      refine wp_iald (pc := 65) dX12_readClause_65 (by first | rfl | assumption | exact sh_house (by omega) | exact sh_wish (by omega) | exact sh_wor (by omega) | exact sh_bar (by omega) | exact sh_term (by omega) | exact sh_sheet (by omega) | exact sh_items (by omega) | exact sh_sums (by omega)) (vp_in_nI (by omega) (by decide)) ?_
      refine wp_if_eq (pc := 66) (tgt := 78) dX12_readClause_66 rfl (fun q => absurd q (by dsimp only; rw [ci, up2_ne (by omega), up2_at]; exact nI_ne0 (by omega) (by omega))) (fun _ => ?_)
      refine wp_aload_n (pc := 69) dX12_readClause_69 (by first | rfl | assumption | (repeat first | assumption | rfl | refine aG_n ?_ rfl rfl)) ?_
      refine wp_getR (pc := 70) dX12_readClause_70 fl_12_47 (by first | rfl | assumption | exact sh_house (by omega) | exact sh_wish (by omega) | exact sh_wor (by omega) | exact sh_bar (by omega) | exact sh_term (by omega) | exact sh_sheet (by omega) | exact sh_items (by omega) | exact sh_sums (by omega)) rfl ?_
      refine wp_iload_n (pc := 73) dX12_readClause_73 (by first | rfl | assumption | (repeat first | assumption | rfl | refine aG_n ?_ rfl rfl)) ?_
      refine wp_zald (pc := 74) dX12_readClause_74 (by first | rfl | assumption | exact sh_house (by omega) | exact sh_wish (by omega) | exact sh_wor (by omega) | exact sh_bar (by omega) | exact sh_term (by omega) | exact sh_sheet (by omega) | exact sh_items (by omega) | exact sh_sums (by omega)) (vp_in_nI (by omega) (by decide)) ?_
      refine wp_if_eq (pc := 75) (tgt := 93) dX12_readClause_75 rfl (fun _ => ?_) (fun q => absurd (by dsimp only; rw [ci, up2_ne (by omega), up2_ne (by omega), h2.1 99 i (by omega), h99]) q)
      skip
      rw [ci]
      have hM2 := ((hM.pl h2).up (a := 97) (f := i) (v := nI r.2) (by omega)).up (a := 98) (f := i) (v := 0) (by omega)
      have hm : ∀ {μa μb : Mm}, MR i μ μa → MR i μa μb → MR i μ μb := fun h h' => ⟨fun c j h1 h2 => (h'.1 c j h1 h2).trans (h.1 c j h1 h2), h'.2.trans h.2⟩
      refine l_mrc93 hi (TR hT hM2) l1 ?_ (fun nk μ3 m3 p3 => kf (fun y => y.2.elim (fun w => by cases w) nk) _ (hm hM2 m3) p3) (fun ok μ3 m3 p3 q1 q2 q3 => kt ⟨z, Or.inr ok⟩ _ _ (hm hM2 m3) (nD_le l1) (by rw [if_neg hb']) p3 ?_ (by rw [if_neg hb']; exact q2) ?_) _ (by first | rfl | assumption | (repeat first | assumption | rfl | refine aG_n ?_ rfl rfl)) (by first | rfl | assumption | (repeat first | assumption | rfl | refine aG_n ?_ rfl rfl))
      · dsimp only; rw [up2_ne (by omega), up2_ne (by omega)]; exact h2.2.2
      · rw [q1]; dsimp only; rw [up2_ne (by omega), up2_at]
      · rw [q3]; dsimp only; rw [up2_ne (by omega), up2_ne (by omega), h2.1 99 i (by omega), h99]; rfl
theorem c_X12_readClause {i p : Nat} (hi : i < 12) (hT : TG μ.1 86 10 96 b n) (hp : p ≤ n) (hP : μ.1 86 11 = nI p) (kf : ¬ clOk b n p → ∀ μ', MR i μ μ' → μ'.1 86 11 = nI (clF b n p) → Q (some (.int 0)) μ') (kt : clOk b n p → ∀ μ' x, MR i μ μ' → x ≤ n → nx b n x = nx b n (clAt b n p) → μ'.1 86 11 = nI x → μ'.1 97 i = nI (cL b n p).2 → μ'.1 98 i = clV b n p → μ'.1 99 i = b2i (cBr b n p) → Q (some (.int 1)) μ') : WP X mX12_readClause 0 (lv_args 0 [.ref 86, .int (nI i)]) [] μ Q := by
  have hc := ch_lt (p := nx b n p) hT.2.1
  have hn := hT.1
  have ci : (nI i).toNatClampNeg = i := nI_clamp (by omega)
  unfold clOk clF at kf
  unfold clOk clAt clV at kt
  unfold cL at kf kt
  by_cases c : cBr b n p = true
  · have hx := cB_n c
    rw [if_pos c] at kf
    rw [if_pos c] at kt
    refine wp_aload_n (pc := 0) dX12_readClause_0 (by first | rfl | assumption | (repeat first | assumption | rfl | refine aG_n ?_ rfl rfl)) ?_
    refine wp_getR (pc := 1) dX12_readClause_1 fl_12_47 (by first | rfl | assumption | exact sh_house (by omega) | exact sh_wish (by omega) | exact sh_wor (by omega) | exact sh_bar (by omega) | exact sh_term (by omega) | exact sh_sheet (by omega) | exact sh_items (by omega) | exact sh_sums (by omega)) rfl ?_
    refine wp_iload_n (pc := 4) dX12_readClause_4 (by first | rfl | assumption | (repeat first | assumption | rfl | refine aG_n ?_ rfl rfl)) ?_
    refine wp_aload_n (pc := 5) dX12_readClause_5 (by first | rfl | assumption | (repeat first | assumption | rfl | refine aG_n ?_ rfl rfl)) ?_
    refine wp_cV (pc := 6) dX12_readClause_6 lk_12_167 rfl (by decide) rfl (by first | rfl | assumption | exact sh_house (by omega) | exact sh_wish (by omega) | exact sh_wor (by omega) | exact sh_bar (by omega) | exact sh_term (by omega) | exact sh_sheet (by omega) | exact sh_items (by omega) | exact sh_sums (by omega)) rfl rfl ?_
    refine c_X12_next hT hp hP (fun μ2 h2 => aK_i ?_)
    refine wp_bipush (pc := 9) (v := 33) dX12_readClause_9 (by decide) ?_
    refine wp_icmp_ne (pc := 11) (tgt := 18) dX12_readClause_11 rfl (fun q => absurd ((chI_33 hc).mpr (of_decide_eq_true c)) q) (fun _ => ?_)
    refine wp_iconst (pc := 14) (v := 1) dX12_readClause_14 (by decide) ?_
    refine wp_goto (pc := 15) (tgt := 19) dX12_readClause_15 rfl ?_
    refine wp_zast (pc := 19) dX12_readClause_19 (by first | rfl | assumption | exact sh_house (by omega) | exact sh_wish (by omega) | exact sh_wor (by omega) | exact sh_bar (by omega) | exact sh_term (by omega) | exact sh_sheet (by omega) | exact sh_items (by omega) | exact sh_sums (by omega)) (vp_in_nI (by omega) (by decide)) (show vp_nar .boolean 1 = 1 from rfl) ?_
    refine wp_aload_n (pc := 20) dX12_readClause_20 (by first | rfl | assumption | (repeat first | assumption | rfl | refine aG_n ?_ rfl rfl)) ?_
    refine wp_dupr (pc := 21) dX12_readClause_21 ?_
    refine wp_getI (pc := 22) dX12_readClause_22 fl_12_164 (by first | rfl | assumption | exact sh_house (by omega) | exact sh_wish (by omega) | exact sh_wor (by omega) | exact sh_bar (by omega) | exact sh_term (by omega) | exact sh_sheet (by omega) | exact sh_items (by omega) | exact sh_sums (by omega)) rfl ?_
    refine wp_aload_n (pc := 25) dX12_readClause_25 (by first | rfl | assumption | (repeat first | assumption | rfl | refine aG_n ?_ rfl rfl)) ?_
    refine wp_getR (pc := 26) dX12_readClause_26 fl_12_47 (by first | rfl | assumption | exact sh_house (by omega) | exact sh_wish (by omega) | exact sh_wor (by omega) | exact sh_bar (by omega) | exact sh_term (by omega) | exact sh_sheet (by omega) | exact sh_items (by omega) | exact sh_sums (by omega)) rfl ?_
    refine wp_iload_n (pc := 29) dX12_readClause_29 (by first | rfl | assumption | (repeat first | assumption | rfl | refine aG_n ?_ rfl rfl)) ?_
    refine wp_zald (pc := 30) dX12_readClause_30 (by first | rfl | assumption | exact sh_house (by omega) | exact sh_wish (by omega) | exact sh_wor (by omega) | exact sh_bar (by omega) | exact sh_term (by omega) | exact sh_sheet (by omega) | exact sh_items (by omega) | exact sh_sums (by omega)) (vp_in_nI (by omega) (by decide)) ?_
    refine wp_if_eq (pc := 31) (tgt := 38) dX12_readClause_31 rfl (fun q => absurd q (by dsimp only; rw [up2_at]; decide)) (fun _ => ?_)
    refine wp_iconst (pc := 34) (v := 1) dX12_readClause_34 (by decide) ?_
    refine wp_goto (pc := 35) (tgt := 39) dX12_readClause_35 rfl ?_
    refine wp_iadd (pc := 39) dX12_readClause_39 ?_
    refine wp_putI (pc := 40) dX12_readClause_40 fl_12_164 (by first | rfl | assumption | exact sh_house (by omega) | exact sh_wish (by omega) | exact sh_wor (by omega) | exact sh_bar (by omega) | exact sh_term (by omega) | exact sh_sheet (by omega) | exact sh_items (by omega) | exact sh_sums (by omega)) rfl rfl rfl ?_
    skip
    dsimp only
    rw [ci, up2_ne (show 86 ≠ 99 by decide), h2.2.2, nI_1]
    refine l_mrc43 (μ := μ) (br := cBr b n p) hi hT (by omega) kf kt _ (((MR.rf.pl h2).up (a := 99) (f := i) (by omega)).up (a := 86) (f := 11) (by omega)) (by dsimp only; exact up2_at) ?_ _ (by first | rfl | assumption | (repeat first | assumption | rfl | refine aG_n ?_ rfl rfl)) (by first | rfl | assumption | (repeat first | assumption | rfl | refine aG_n ?_ rfl rfl))
    dsimp only
    rw [up2_ne (by omega), up2_at, c]; rfl
  · rw [if_neg c] at kf
    rw [if_neg c] at kt
    have c' : cBr b n p = false := by simpa using c
    refine wp_aload_n (pc := 0) dX12_readClause_0 (by first | rfl | assumption | (repeat first | assumption | rfl | refine aG_n ?_ rfl rfl)) ?_
    refine wp_getR (pc := 1) dX12_readClause_1 fl_12_47 (by first | rfl | assumption | exact sh_house (by omega) | exact sh_wish (by omega) | exact sh_wor (by omega) | exact sh_bar (by omega) | exact sh_term (by omega) | exact sh_sheet (by omega) | exact sh_items (by omega) | exact sh_sums (by omega)) rfl ?_
    refine wp_iload_n (pc := 4) dX12_readClause_4 (by first | rfl | assumption | (repeat first | assumption | rfl | refine aG_n ?_ rfl rfl)) ?_
    refine wp_aload_n (pc := 5) dX12_readClause_5 (by first | rfl | assumption | (repeat first | assumption | rfl | refine aG_n ?_ rfl rfl)) ?_
    refine wp_cV (pc := 6) dX12_readClause_6 lk_12_167 rfl (by decide) rfl (by first | rfl | assumption | exact sh_house (by omega) | exact sh_wish (by omega) | exact sh_wor (by omega) | exact sh_bar (by omega) | exact sh_term (by omega) | exact sh_sheet (by omega) | exact sh_items (by omega) | exact sh_sums (by omega)) rfl rfl ?_
    refine c_X12_next hT hp hP (fun μ2 h2 => aK_i ?_)
    refine wp_bipush (pc := 9) (v := 33) dX12_readClause_9 (by decide) ?_
    refine wp_icmp_ne (pc := 11) (tgt := 18) dX12_readClause_11 rfl (fun _ => ?_) (fun q => absurd q (fun z => c (decide_eq_true ((chI_33 hc).mp z))))
    refine wp_iconst (pc := 18) (v := 0) dX12_readClause_18 (by decide) ?_
    refine wp_zast (pc := 19) dX12_readClause_19 (by first | rfl | assumption | exact sh_house (by omega) | exact sh_wish (by omega) | exact sh_wor (by omega) | exact sh_bar (by omega) | exact sh_term (by omega) | exact sh_sheet (by omega) | exact sh_items (by omega) | exact sh_sums (by omega)) (vp_in_nI (by omega) (by decide)) (show vp_nar .boolean 0 = 0 from rfl) ?_
    refine wp_aload_n (pc := 20) dX12_readClause_20 (by first | rfl | assumption | (repeat first | assumption | rfl | refine aG_n ?_ rfl rfl)) ?_
    refine wp_dupr (pc := 21) dX12_readClause_21 ?_
    refine wp_getI (pc := 22) dX12_readClause_22 fl_12_164 (by first | rfl | assumption | exact sh_house (by omega) | exact sh_wish (by omega) | exact sh_wor (by omega) | exact sh_bar (by omega) | exact sh_term (by omega) | exact sh_sheet (by omega) | exact sh_items (by omega) | exact sh_sums (by omega)) rfl ?_
    refine wp_aload_n (pc := 25) dX12_readClause_25 (by first | rfl | assumption | (repeat first | assumption | rfl | refine aG_n ?_ rfl rfl)) ?_
    refine wp_getR (pc := 26) dX12_readClause_26 fl_12_47 (by first | rfl | assumption | exact sh_house (by omega) | exact sh_wish (by omega) | exact sh_wor (by omega) | exact sh_bar (by omega) | exact sh_term (by omega) | exact sh_sheet (by omega) | exact sh_items (by omega) | exact sh_sums (by omega)) rfl ?_
    refine wp_iload_n (pc := 29) dX12_readClause_29 (by first | rfl | assumption | (repeat first | assumption | rfl | refine aG_n ?_ rfl rfl)) ?_
    refine wp_zald (pc := 30) dX12_readClause_30 (by first | rfl | assumption | exact sh_house (by omega) | exact sh_wish (by omega) | exact sh_wor (by omega) | exact sh_bar (by omega) | exact sh_term (by omega) | exact sh_sheet (by omega) | exact sh_items (by omega) | exact sh_sums (by omega)) (vp_in_nI (by omega) (by decide)) ?_
    refine wp_if_eq (pc := 31) (tgt := 38) dX12_readClause_31 rfl (fun _ => ?_) (fun q => absurd (by dsimp only; rw [up2_at]) q)
    refine wp_iconst (pc := 38) (v := 0) dX12_readClause_38 (by decide) ?_
    refine wp_iadd (pc := 39) dX12_readClause_39 ?_
    refine wp_putI (pc := 40) dX12_readClause_40 fl_12_164 (by first | rfl | assumption | exact sh_house (by omega) | exact sh_wish (by omega) | exact sh_wor (by omega) | exact sh_bar (by omega) | exact sh_term (by omega) | exact sh_sheet (by omega) | exact sh_items (by omega) | exact sh_sums (by omega)) rfl rfl rfl ?_
    skip
    dsimp only
    rw [ci, up2_ne (show 86 ≠ 99 by decide), h2.2.2, Int32.add_zero]
    refine l_mrc43 (μ := μ) (br := cBr b n p) hi hT (nx_le hp) kf kt _ (((MR.rf.pl h2).up (a := 99) (f := i) (by omega)).up (a := 86) (f := 11) (by omega)) (by dsimp only; exact up2_at) ?_ _ (by first | rfl | assumption | (repeat first | assumption | rfl | refine aG_n ?_ rfl rfl)) (by first | rfl | assumption | (repeat first | assumption | rfl | refine aG_n ?_ rfl rfl))
    dsimp only
    rw [up2_ne (by omega), up2_at, c']; rfl
end PARSEM

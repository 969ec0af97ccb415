def wu (M : MM) (q : Nat) : Nat := (M 101 q).toNatClampNeg
/-- what stands while a talk is open; N: the memory of which the words are told -/
def TK (μ : Mm) (a b mo w : Nat) : Prop := (μ.1 86 15 = 1 ∧ μ.1 73 0 = 1) ∧ (a < 4 ∧ b < 4 ∧ a ≠ b) ∧ (μ.1 73 1 = nI a ∧ μ.1 86 16 = nI a ∧ μ.1 73 2 = nI b ∧ μ.1 86 17 = nI b) ∧ (μ.1 73 4 = nI mo ∧ μ.1 86 18 = nI mo ∧ mo ≤ 20 ∧ w < mo) ∧ (μ.1 73 3 = nI w ∧ μ.1 86 19 = nI w) ∧ Pr μ 74 (two (th μ.1 a) (th μ.1 b)) (two (56 + 4 * a) (56 + 4 * b)) ∧ (μ.1 74 2 = μ.1 88 a ∧ μ.1 74 3 = μ.1 88 b) ∧ (∀ q, q < 20 → μ.1 75 q = μ.1 100 q ∧ μ.1 76 q = μ.1 101 q ∧ μ.1 77 q = μ.1 102 q) ∧ ∀ q, q < w → isOf μ.1 q → μ.1 101 q = nI (wu μ.1 q) ∧ wu μ.1 q < 64 ∧ inR (μ.1 102 q) (-999) 999 ∧ wu μ.1 q &&& (th μ.1 a ||| th μ.1 b) = wu μ.1 q
theorem TK_of {μ : Mm} (hI : Inv μ) (ho : μ.1 86 15 = 1) : ∃ a b mo w, TK μ a b mo w := by
  obtain ⟨t1, t2, t3, t4, w, hw, t6, t7, t8⟩ := hI.2.2.2.2.2.1
  obtain ⟨a, b, mo, ⟨ha, hb, hab⟩, d2, ⟨d31, d32, d33, d34, d35⟩, ⟨d41, d42, d43, d44⟩, ⟨d51, d52⟩, d6, d7, d8, d9, d10⟩ := t8 (by rw [ho]; decide)
  obtain ⟨f1, f2, f3, f4⟩ := d9 ho
  refine ⟨a, b, mo, w, ⟨ho, t1.trans ho⟩, ⟨ha, hb, hab⟩, d2, ⟨d31, d32, d33, d35 ho⟩, ⟨t3.trans t6, t6⟩, ⟨rfl, fun d hd => ?_⟩, ⟨d43.trans f3, d44.trans f4⟩, t4, fun q hq hof => ?_⟩
  · obtain rfl | rfl : d = 0 ∨ d = 1 := by omega
    · refine ⟨⟨d41.trans f1, th_lt _ _⟩, d51, Wsh_h ha, fun s hs => ?_⟩
      show μ.1 (56 + 4 * a + 2) s = 0 ∨ μ.1 (56 + 4 * a + 2) s = 1
      rw [e562]; exact m_bit01 hI.2.2.2.1 ha hs
    · refine ⟨⟨d42.trans f2, th_lt _ _⟩, d52, Wsh_h hb, fun s hs => ?_⟩
      show μ.1 (56 + 4 * b + 2) s = 0 ∨ μ.1 (56 + 4 * b + 2) s = 1
      rw [e562]; exact m_bit01 hI.2.2.2.1 hb hs
  · obtain ⟨-, g2, -, g4⟩ := d10 q hq
    obtain ⟨⟨u, hu, eu⟩, g5, -⟩ := g2 hof
    have ew : wu μ.1 q = u := by unfold wu; rw [eu, nI_clamp (by omega)]
    have h4 := g4 hof
    rw [eu, f1, f2, or6 (th_lt _ _) (th_lt _ _), sub_i u hu _ (o64 (th_lt _ _) (th_lt _ _))] at h4
    rw [ew]
    exact ⟨eu, hu, g5, h4⟩
def suP (M N : MM) (P : Nat) (t w : Nat → Nat) (n : Nat) (least : Int32) : Prop := (0 < n ∧ isOf N (n - 1)) ∧ goB M P t w (wu N (n - 1)) (N 102 (n - 1)) ∧ least ≤ gnp M t w (n % 2) (wu N (n - 1)) (N 102 (n - 1))
theorem i_nle2 {a b : Int32} (h : ¬ a ≤ b) : b < a := by rw [i_le] at h; rw [i_lt]; omega
section YES
variable {X : aX} {μ : Mm} {Q : Option Value → Mm → Prop} {P n w : Nat} {t wv : Nat → Nat} {N : MM} {i : Int32}
theorem n_isOffer (hw : w ≤ 20) (h73 : μ.1 73 3 = nI w) (hk : ∀ q, q < 20 → μ.1 75 q = N 100 q) (kt : ofW N w i → Q (some (.int 1)) μ) (kf : ¬ ofW N w i → Q (some (.int 0)) μ) : WP X mX7_isOffer 0 (lv_args 0 [.ref 73, .int i]) [] μ Q := by
  by_cases c : inT i w
  · obtain ⟨q, hq, rfl⟩ := inT_of c
    have eq : (nI q).toNatClampNeg = q := nI_clamp (by omega)
    rw [ofW_q hw hq] at kt kf
    unfold isOf at kt kf
    rw [← hk q (by omega)] at kt kf
    refine wp_aload_n (pc := 0) dX7_isOffer_0 (by first | rfl | assumption | (repeat first | assumption | rfl | refine aG_n ?_ rfl rfl)) ?_
    refine wp_iload_n (pc := 1) dX7_isOffer_1 (by first | rfl | assumption | (repeat first | assumption | rfl | refine aG_n ?_ rfl rfl)) ?_
    refine wp_cV (pc := 2) dX7_isOffer_2 lk_7_45 rfl (by decide) rfl (by first | rfl | assumption | exact sh_house (by omega) | exact sh_wish (by omega) | exact sh_wor (by omega) | exact sh_bar (by omega) | exact sh_term (by omega) | exact sh_sheet (by omega) | exact sh_items (by omega) | exact sh_sums (by omega)) rfl rfl (c_X7_hasWord hw h73 (fun _ => aK_i ?_) (fun q => absurd c q))
    refine wp_if_eq (pc := 5) (tgt := 32) dX7_isOffer_5 rfl (fun q => absurd q (by decide)) (fun _ => ?_)
    refine wp_aload_n (pc := 8) dX7_isOffer_8 (by first | rfl | assumption | (repeat first | assumption | rfl | refine aG_n ?_ rfl rfl)) ?_
    refine wp_getR (pc := 9) dX7_isOffer_9 fl_7_18 (by first | rfl | assumption | exact sh_house (by omega) | exact sh_wish (by omega) | exact sh_wor (by omega) | exact sh_bar (by omega) | exact sh_term (by omega) | exact sh_sheet (by omega) | exact sh_items (by omega) | exact sh_sums (by omega)) rfl ?_
    refine wp_iload_n (pc := 12) dX7_isOffer_12 (by first | rfl | assumption | (repeat first | assumption | rfl | refine aG_n ?_ rfl rfl)) ?_
    refine wp_iald (pc := 13) dX7_isOffer_13 (by first | rfl | assumption | exact sh_house (by omega) | exact sh_wish (by omega) | exact sh_wor (by omega) | exact sh_bar (by omega) | exact sh_term (by omega) | exact sh_sheet (by omega) | exact sh_items (by omega) | exact sh_sums (by omega)) (vp_in_nI (by omega) (by decide)) ?_
    refine wp_iconst (pc := 14) (v := 1) dX7_isOffer_14 (by decide) ?_
    refine wp_icmp_eq (pc := 15) (tgt := 28) dX7_isOffer_15 rfl (fun c15_1 => ?_) (fun c15_1 => ?_)
    · refine wp_iconst (pc := 28) (v := 1) dX7_isOffer_28 (by decide) ?_
      refine wp_goto (pc := 29) (tgt := 33) dX7_isOffer_29 rfl ?_
      refine wp_ireturn (pc := 33) dX7_isOffer_33 rfl (by first | rfl | decide | assumption) ?_
      simp only [eq] at *; first | exact kt (Or.inl (by assumption)) | exact kt (Or.inr (by assumption))
    · refine wp_aload_n (pc := 18) dX7_isOffer_18 (by first | rfl | assumption | (repeat first | assumption | rfl | refine aG_n ?_ rfl rfl)) ?_
      refine wp_getR (pc := 19) dX7_isOffer_19 fl_7_18 (by first | rfl | assumption | exact sh_house (by omega) | exact sh_wish (by omega) | exact sh_wor (by omega) | exact sh_bar (by omega) | exact sh_term (by omega) | exact sh_sheet (by omega) | exact sh_items (by omega) | exact sh_sums (by omega)) rfl ?_
      refine wp_iload_n (pc := 22) dX7_isOffer_22 (by first | rfl | assumption | (repeat first | assumption | rfl | refine aG_n ?_ rfl rfl)) ?_
      refine wp_iald (pc := 23) dX7_isOffer_23 (by first | rfl | assumption | exact sh_house (by omega) | exact sh_wish (by omega) | exact sh_wor (by omega) | exact sh_bar (by omega) | exact sh_term (by omega) | exact sh_sheet (by omega) | exact sh_items (by omega) | exact sh_sums (by omega)) (vp_in_nI (by omega) (by decide)) ?_
      refine wp_iconst (pc := 24) (v := 2) dX7_isOffer_24 (by decide) ?_
      refine wp_icmp_ne (pc := 25) (tgt := 32) dX7_isOffer_25 rfl (fun c25_2 => ?_) (fun c25_2 => ?_)
      · refine wp_iconst (pc := 32) (v := 0) dX7_isOffer_32 (by decide) ?_
        refine wp_ireturn (pc := 33) dX7_isOffer_33 rfl (by first | rfl | decide | assumption) ?_
        simp only [eq] at *; exact kf (fun z => z.elim (by assumption) (by assumption))
      · refine wp_iconst (pc := 28) (v := 1) dX7_isOffer_28 (by decide) ?_
        refine wp_goto (pc := 29) (tgt := 33) dX7_isOffer_29 rfl ?_
        refine wp_ireturn (pc := 33) dX7_isOffer_33 rfl (by first | rfl | decide | assumption) ?_
        simp only [eq] at *; first | exact kt (Or.inl (by assumption)) | exact kt (Or.inr (by assumption))
  · refine wp_aload_n (pc := 0) dX7_isOffer_0 (by first | rfl | assumption | (repeat first | assumption | rfl | refine aG_n ?_ rfl rfl)) ?_
    refine wp_iload_n (pc := 1) dX7_isOffer_1 (by first | rfl | assumption | (repeat first | assumption | rfl | refine aG_n ?_ rfl rfl)) ?_
    refine wp_cV (pc := 2) dX7_isOffer_2 lk_7_45 rfl (by decide) rfl (by first | rfl | assumption | exact sh_house (by omega) | exact sh_wish (by omega) | exact sh_wor (by omega) | exact sh_bar (by omega) | exact sh_term (by omega) | exact sh_sheet (by omega) | exact sh_items (by omega) | exact sh_sums (by omega)) rfl rfl (c_X7_hasWord hw h73 (fun q => absurd q c) (fun _ => aK_i ?_))
    refine wp_if_eq (pc := 5) (tgt := 32) dX7_isOffer_5 rfl (fun _ => ?_) (fun q => absurd q (by decide))
    refine wp_iconst (pc := 32) (v := 0) dX7_isOffer_32 (by decide) ?_
    refine wp_ireturn (pc := 33) dX7_isOffer_33 rfl (by first | rfl | decide | assumption) ?_
    exact kf (fun z => c (ofW_in hw z))
theorem n_offerKind (hw : w ≤ 20) (h73 : μ.1 73 3 = nI w) (hk : ∀ q, q < 20 → μ.1 75 q = N 100 q) (kt : ofW N w (i - 1) → Q (some (.int 2)) μ) (kf : ¬ ofW N w (i - 1) → Q (some (.int 1)) μ) : WP X mX7_offerKind 0 (lv_args 0 [.ref 73, .int i]) [] μ Q := by
  by_cases c : ofW N w (i - 1)
  · refine wp_aload_n (pc := 0) dX7_offerKind_0 (by first | rfl | assumption | (repeat first | assumption | rfl | refine aG_n ?_ rfl rfl)) ?_
    refine wp_iload_n (pc := 1) dX7_offerKind_1 (by first | rfl | assumption | (repeat first | assumption | rfl | refine aG_n ?_ rfl rfl)) ?_
    refine wp_iconst (pc := 2) (v := 1) dX7_offerKind_2 (by decide) ?_
    refine wp_isub (pc := 3) dX7_offerKind_3 ?_
    refine wp_cV (pc := 4) dX7_offerKind_4 lk_7_49 rfl (by decide) rfl (by first | rfl | assumption | exact sh_house (by omega) | exact sh_wish (by omega) | exact sh_wor (by omega) | exact sh_bar (by omega) | exact sh_term (by omega) | exact sh_sheet (by omega) | exact sh_items (by omega) | exact sh_sums (by omega)) rfl rfl (n_isOffer hw h73 hk (fun _ => aK_i ?_) (fun q => absurd c q))
    refine wp_if_eq (pc := 7) (tgt := 14) dX7_offerKind_7 rfl (fun q => absurd q (by decide)) (fun _ => ?_)
    refine wp_iconst (pc := 10) (v := 2) dX7_offerKind_10 (by decide) ?_
    refine wp_goto (pc := 11) (tgt := 15) dX7_offerKind_11 rfl ?_
    refine wp_ireturn (pc := 15) dX7_offerKind_15 rfl (by first | rfl | decide | assumption) ?_
    exact kt c
  · refine wp_aload_n (pc := 0) dX7_offerKind_0 (by first | rfl | assumption | (repeat first | assumption | rfl | refine aG_n ?_ rfl rfl)) ?_
    refine wp_iload_n (pc := 1) dX7_offerKind_1 (by first | rfl | assumption | (repeat first | assumption | rfl | refine aG_n ?_ rfl rfl)) ?_
    refine wp_iconst (pc := 2) (v := 1) dX7_offerKind_2 (by decide) ?_
    refine wp_isub (pc := 3) dX7_offerKind_3 ?_
    refine wp_cV (pc := 4) dX7_offerKind_4 lk_7_49 rfl (by decide) rfl (by first | rfl | assumption | exact sh_house (by omega) | exact sh_wish (by omega) | exact sh_wor (by omega) | exact sh_bar (by omega) | exact sh_term (by omega) | exact sh_sheet (by omega) | exact sh_items (by omega) | exact sh_sums (by omega)) rfl rfl (n_isOffer hw h73 hk (fun q => absurd q c) (fun _ => aK_i ?_))
    refine wp_if_eq (pc := 7) (tgt := 14) dX7_offerKind_7 rfl (fun _ => ?_) (fun q => absurd q (by decide))
    refine wp_iconst (pc := 14) (v := 1) dX7_offerKind_14 (by decide) ?_
    refine wp_ireturn (pc := 15) dX7_offerKind_15 rfl (by first | rfl | decide | assumption) ?_
    exact kf c
theorem n_suits {least : Int32} (hPr : Pr μ P t wv) (hw : w ≤ 20) (h73 : μ.1 73 3 = nI w) (hk : ∀ q, q < 20 → μ.1 75 q = N 100 q ∧ μ.1 76 q = N 101 q ∧ μ.1 77 q = N 102 q) (hof : ∀ q, q < w → isOf N q → N 101 q = nI (wu N q) ∧ wu N q < 64) (hn : n ≤ w) (kt : suP μ.1 N P t wv n least → Q (some (.int 1)) μ) (kf : ¬ suP μ.1 N P t wv n least → Q (some (.int 0)) μ) : WP X mX7_suits 0 (lv_args 0 [.ref 73, .ref P, .int (nI n), .int least]) [] μ Q := by
  have hP := hPr.1
  have hk1 : ∀ q, q < 20 → μ.1 75 q = N 100 q := fun q hq => (hk q hq).1
  by_cases c1 : 0 < n ∧ isOf N (n - 1)
  · have c1' := (ofW_p hw hn).mpr c1
    obtain ⟨m, rfl⟩ : ∃ m, n = m + 1 := ⟨n - 1, by omega⟩
    unfold suP at kt kf
    simp only [Nat.add_sub_cancel] at kt kf c1
    obtain ⟨e1, e2⟩ := hof m (by omega) c1.2
    have e76 : μ.1 76 m = nI (wu N m) := (hk m (by omega)).2.1.trans e1
    have e77 : μ.1 77 m = N 102 m := (hk m (by omega)).2.2
    by_cases c2 : goB μ.1 P t wv (wu N m) (N 102 m)
    · by_cases c3 : least ≤ gnp μ.1 t wv ((m + 1) % 2) (wu N m) (N 102 m)
      · refine wp_iload_n (pc := 0) dX7_suits_0 (by first | rfl | assumption | (repeat first | assumption | rfl | refine aG_n ?_ rfl rfl)) ?_
        refine wp_iconst (pc := 1) (v := 1) dX7_suits_1 (by decide) ?_
        refine wp_isub (pc := 2) dX7_suits_2 ?_
        refine wp_istore (pc := 3) dX7_suits_3 (by decide) ?_
        refine wp_aload_n (pc := 5) dX7_suits_5 (by first | rfl | assumption | (repeat first | assumption | rfl | refine aG_n ?_ rfl rfl)) ?_
        refine wp_iload (pc := 6) dX7_suits_6 (by first | rfl | assumption | (repeat first | assumption | rfl | refine aG_n ?_ rfl rfl)) ?_
        refine wp_cV (pc := 8) dX7_suits_8 lk_7_49 rfl (by decide) rfl (by first | rfl | assumption | exact sh_house (by omega) | exact sh_wish (by omega) | exact sh_wor (by omega) | exact sh_bar (by omega) | exact sh_term (by omega) | exact sh_sheet (by omega) | exact sh_items (by omega) | exact sh_sums (by omega)) rfl rfl (n_isOffer hw h73 hk1 (fun _ => aK_i ?_) (fun q => absurd c1' q))
        refine wp_if_eq (pc := 11) (tgt := 62) dX7_suits_11 rfl (fun q => absurd q (by decide)) (fun _ => ?_)
        refine wp_aload_n (pc := 14) dX7_suits_14 (by first | rfl | assumption | (repeat first | assumption | rfl | refine aG_n ?_ rfl rfl)) ?_
        refine wp_aload_n (pc := 15) dX7_suits_15 (by first | rfl | assumption | (repeat first | assumption | rfl | refine aG_n ?_ rfl rfl)) ?_
        refine wp_iload (pc := 16) dX7_suits_16 (by first | rfl | assumption | (repeat first | assumption | rfl | refine aG_n ?_ rfl rfl)) ?_
        refine wp_cV (pc := 18) dX7_suits_18 lk_7_52 rfl (by decide) rfl (by first | rfl | assumption | exact sh_house (by omega) | exact sh_wish (by omega) | exact sh_wor (by omega) | exact sh_bar (by omega) | exact sh_term (by omega) | exact sh_sheet (by omega) | exact sh_items (by omega) | exact sh_sums (by omega)) rfl rfl ?_
        try rw [nI_pred]
        refine c_X7_setAt hw h73 (show m < w by omega) ?_
        rw [e76]
        refine aK_i ?_
        refine wp_aload_n (pc := 21) dX7_suits_21 (by first | rfl | assumption | (repeat first | assumption | rfl | refine aG_n ?_ rfl rfl)) ?_
        refine wp_iload (pc := 22) dX7_suits_22 (by first | rfl | assumption | (repeat first | assumption | rfl | refine aG_n ?_ rfl rfl)) ?_
        refine wp_cV (pc := 24) dX7_suits_24 lk_7_55 rfl (by decide) rfl (by first | rfl | assumption | exact sh_house (by omega) | exact sh_wish (by omega) | exact sh_wor (by omega) | exact sh_bar (by omega) | exact sh_term (by omega) | exact sh_sheet (by omega) | exact sh_items (by omega) | exact sh_sums (by omega)) rfl rfl ?_
        try rw [nI_pred]
        refine c_X7_priceAt hw h73 (show m < w by omega) ?_
        rw [e77]
        refine aK_i ?_
        refine wp_cV (pc := 27) dX7_suits_27 lk_7_58 rfl (by decide) rfl (by first | rfl | assumption | exact sh_house (by omega) | exact sh_wish (by omega) | exact sh_wor (by omega) | exact sh_bar (by omega) | exact sh_term (by omega) | exact sh_sheet (by omega) | exact sh_items (by omega) | exact sh_sums (by omega)) rfl rfl (c_X4_isGood hPr e2 (fun _ => aK_i ?_) (fun q => absurd c2 q))
        refine wp_if_eq (pc := 30) (tgt := 62) dX7_suits_30 rfl (fun q => absurd q (by decide)) (fun _ => ?_)
        refine wp_aload_n (pc := 33) dX7_suits_33 (by first | rfl | assumption | (repeat first | assumption | rfl | refine aG_n ?_ rfl rfl)) ?_
        refine wp_aload_n (pc := 34) dX7_suits_34 (by first | rfl | assumption | (repeat first | assumption | rfl | refine aG_n ?_ rfl rfl)) ?_
        refine wp_iload_n (pc := 35) dX7_suits_35 (by first | rfl | assumption | (repeat first | assumption | rfl | refine aG_n ?_ rfl rfl)) ?_
        refine wp_cV (pc := 36) dX7_suits_36 lk_7_41 rfl (by decide) rfl (by first | rfl | assumption | exact sh_house (by omega) | exact sh_wish (by omega) | exact sh_wor (by omega) | exact sh_bar (by omega) | exact sh_term (by omega) | exact sh_sheet (by omega) | exact sh_items (by omega) | exact sh_sums (by omega)) rfl rfl ?_
        refine wp_iload_n (pc := 0) dX7_sideAt_0 (by first | rfl | assumption | (repeat first | assumption | rfl | refine aG_n ?_ rfl rfl)) ?_
        refine wp_iconst (pc := 1) (v := 1) dX7_sideAt_1 (by decide) ?_
        refine wp_iand (pc := 2) dX7_sideAt_2 ?_
        refine wp_iretK (pc := 3) dX7_sideAt_3 rfl (by first | rfl | decide | assumption) ?_
        refine wp_aload_n (pc := 39) dX7_suits_39 (by first | rfl | assumption | (repeat first | assumption | rfl | refine aG_n ?_ rfl rfl)) ?_
        refine wp_iload (pc := 40) dX7_suits_40 (by first | rfl | assumption | (repeat first | assumption | rfl | refine aG_n ?_ rfl rfl)) ?_
        refine wp_cV (pc := 42) dX7_suits_42 lk_7_52 rfl (by decide) rfl (by first | rfl | assumption | exact sh_house (by omega) | exact sh_wish (by omega) | exact sh_wor (by omega) | exact sh_bar (by omega) | exact sh_term (by omega) | exact sh_sheet (by omega) | exact sh_items (by omega) | exact sh_sums (by omega)) rfl rfl ?_
        try rw [nI_pred]
        refine c_X7_setAt hw h73 (show m < w by omega) ?_
        rw [e76]
        refine aK_i ?_
        refine wp_aload_n (pc := 45) dX7_suits_45 (by first | rfl | assumption | (repeat first | assumption | rfl | refine aG_n ?_ rfl rfl)) ?_
        refine wp_iload (pc := 46) dX7_suits_46 (by first | rfl | assumption | (repeat first | assumption | rfl | refine aG_n ?_ rfl rfl)) ?_
        refine wp_cV (pc := 48) dX7_suits_48 lk_7_55 rfl (by decide) rfl (by first | rfl | assumption | exact sh_house (by omega) | exact sh_wish (by omega) | exact sh_wor (by omega) | exact sh_bar (by omega) | exact sh_term (by omega) | exact sh_sheet (by omega) | exact sh_items (by omega) | exact sh_sums (by omega)) rfl rfl ?_
        try rw [nI_pred]
        refine c_X7_priceAt hw h73 (show m < w by omega) ?_
        rw [e77]
        refine aK_i ?_
        refine wp_cV (pc := 51) dX7_suits_51 lk_7_64 rfl (by decide) rfl (by first | rfl | assumption | exact sh_house (by omega) | exact sh_wish (by omega) | exact sh_wor (by omega) | exact sh_bar (by omega) | exact sh_term (by omega) | exact sh_sheet (by omega) | exact sh_items (by omega) | exact sh_sums (by omega)) rfl rfl ?_
        rw [side_i (show m + 1 < 2 ^ 31 by omega)]
        refine c_X4_gained hPr (Nat.mod_lt _ (by decide)) e2 (aK_i ?_)
        refine wp_iload_n (pc := 54) dX7_suits_54 (by first | rfl | assumption | (repeat first | assumption | rfl | refine aG_n ?_ rfl rfl)) ?_
        refine wp_icmp_lt (pc := 55) (tgt := 62) dX7_suits_55 rfl (fun q => absurd q (fun z => i_nle z c3)) (fun _ => ?_)
        refine wp_iconst (pc := 58) (v := 1) dX7_suits_58 (by decide) ?_
        refine wp_goto (pc := 59) (tgt := 63) dX7_suits_59 rfl ?_
        refine wp_ireturn (pc := 63) dX7_suits_63 rfl (by first | rfl | decide | assumption) ?_
        exact kt ⟨c1, c2, c3⟩
      · refine wp_iload_n (pc := 0) dX7_suits_0 (by first | rfl | assumption | (repeat first | assumption | rfl | refine aG_n ?_ rfl rfl)) ?_
        refine wp_iconst (pc := 1) (v := 1) dX7_suits_1 (by decide) ?_
        refine wp_isub (pc := 2) dX7_suits_2 ?_
        refine wp_istore (pc := 3) dX7_suits_3 (by decide) ?_
        refine wp_aload_n (pc := 5) dX7_suits_5 (by first | rfl | assumption | (repeat first | assumption | rfl | refine aG_n ?_ rfl rfl)) ?_
        refine wp_iload (pc := 6) dX7_suits_6 (by first | rfl | assumption | (repeat first | assumption | rfl | refine aG_n ?_ rfl rfl)) ?_
        refine wp_cV (pc := 8) dX7_suits_8 lk_7_49 rfl (by decide) rfl (by first | rfl | assumption | exact sh_house (by omega) | exact sh_wish (by omega) | exact sh_wor (by omega) | exact sh_bar (by omega) | exact sh_term (by omega) | exact sh_sheet (by omega) | exact sh_items (by omega) | exact sh_sums (by omega)) rfl rfl (n_isOffer hw h73 hk1 (fun _ => aK_i ?_) (fun q => absurd c1' q))
        refine wp_if_eq (pc := 11) (tgt := 62) dX7_suits_11 rfl (fun q => absurd q (by decide)) (fun _ => ?_)
        refine wp_aload_n (pc := 14) dX7_suits_14 (by first | rfl | assumption | (repeat first | assumption | rfl | refine aG_n ?_ rfl rfl)) ?_
        refine wp_aload_n (pc := 15) dX7_suits_15 (by first | rfl | assumption | (repeat first | assumption | rfl | refine aG_n ?_ rfl rfl)) ?_
        refine wp_iload (pc := 16) dX7_suits_16 (by first | rfl | assumption | (repeat first | assumption | rfl | refine aG_n ?_ rfl rfl)) ?_
        refine wp_cV (pc := 18) dX7_suits_18 lk_7_52 rfl (by decide) rfl (by first | rfl | assumption | exact sh_house (by omega) | exact sh_wish (by omega) | exact sh_wor (by omega) | exact sh_bar (by omega) | exact sh_term (by omega) | exact sh_sheet (by omega) | exact sh_items (by omega) | exact sh_sums (by omega)) rfl rfl ?_
        try rw [nI_pred]
        refine c_X7_setAt hw h73 (show m < w by omega) ?_
        rw [e76]
        refine aK_i ?_
        refine wp_aload_n (pc := 21) dX7_suits_21 (by first | rfl | assumption | (repeat first | assumption | rfl | refine aG_n ?_ rfl rfl)) ?_
        refine wp_iload (pc := 22) dX7_suits_22 (by first | rfl | assumption | (repeat first | assumption | rfl | refine aG_n ?_ rfl rfl)) ?_
        refine wp_cV (pc := 24) dX7_suits_24 lk_7_55 rfl (by decide) rfl (by first | rfl | assumption | exact sh_house (by omega) | exact sh_wish (by omega) | exact sh_wor (by omega) | exact sh_bar (by omega) | exact sh_term (by omega) | exact sh_sheet (by omega) | exact sh_items (by omega) | exact sh_sums (by omega)) rfl rfl ?_
        try rw [nI_pred]
        refine c_X7_priceAt hw h73 (show m < w by omega) ?_
        rw [e77]
        refine aK_i ?_
        refine wp_cV (pc := 27) dX7_suits_27 lk_7_58 rfl (by decide) rfl (by first | rfl | assumption | exact sh_house (by omega) | exact sh_wish (by omega) | exact sh_wor (by omega) | exact sh_bar (by omega) | exact sh_term (by omega) | exact sh_sheet (by omega) | exact sh_items (by omega) | exact sh_sums (by omega)) rfl rfl (c_X4_isGood hPr e2 (fun _ => aK_i ?_) (fun q => absurd c2 q))
        refine wp_if_eq (pc := 30) (tgt := 62) dX7_suits_30 rfl (fun q => absurd q (by decide)) (fun _ => ?_)
        refine wp_aload_n (pc := 33) dX7_suits_33 (by first | rfl | assumption | (repeat first | assumption | rfl | refine aG_n ?_ rfl rfl)) ?_
        refine wp_aload_n (pc := 34) dX7_suits_34 (by first | rfl | assumption | (repeat first | assumption | rfl | refine aG_n ?_ rfl rfl)) ?_
        refine wp_iload_n (pc := 35) dX7_suits_35 (by first | rfl | assumption | (repeat first | assumption | rfl | refine aG_n ?_ rfl rfl)) ?_
        refine wp_cV (pc := 36) dX7_suits_36 lk_7_41 rfl (by decide) rfl (by first | rfl | assumption | exact sh_house (by omega) | exact sh_wish (by omega) | exact sh_wor (by omega) | exact sh_bar (by omega) | exact sh_term (by omega) | exact sh_sheet (by omega) | exact sh_items (by omega) | exact sh_sums (by omega)) rfl rfl ?_
        refine wp_iload_n (pc := 0) dX7_sideAt_0 (by first | rfl | assumption | (repeat first | assumption | rfl | refine aG_n ?_ rfl rfl)) ?_
        refine wp_iconst (pc := 1) (v := 1) dX7_sideAt_1 (by decide) ?_
        refine wp_iand (pc := 2) dX7_sideAt_2 ?_
        refine wp_iretK (pc := 3) dX7_sideAt_3 rfl (by first | rfl | decide | assumption) ?_
        refine wp_aload_n (pc := 39) dX7_suits_39 (by first | rfl | assumption | (repeat first | assumption | rfl | refine aG_n ?_ rfl rfl)) ?_
        refine wp_iload (pc := 40) dX7_suits_40 (by first | rfl | assumption | (repeat first | assumption | rfl | refine aG_n ?_ rfl rfl)) ?_
        refine wp_cV (pc := 42) dX7_suits_42 lk_7_52 rfl (by decide) rfl (by first | rfl | assumption | exact sh_house (by omega) | exact sh_wish (by omega) | exact sh_wor (by omega) | exact sh_bar (by omega) | exact sh_term (by omega) | exact sh_sheet (by omega) | exact sh_items (by omega) | exact sh_sums (by omega)) rfl rfl ?_
        try rw [nI_pred]
        refine c_X7_setAt hw h73 (show m < w by omega) ?_
        rw [e76]
        refine aK_i ?_
        refine wp_aload_n (pc := 45) dX7_suits_45 (by first | rfl | assumption | (repeat first | assumption | rfl | refine aG_n ?_ rfl rfl)) ?_
        refine wp_iload (pc := 46) dX7_suits_46 (by first | rfl | assumption | (repeat first | assumption | rfl | refine aG_n ?_ rfl rfl)) ?_
        refine wp_cV (pc := 48) dX7_suits_48 lk_7_55 rfl (by decide) rfl (by first | rfl | assumption | exact sh_house (by omega) | exact sh_wish (by omega) | exact sh_wor (by omega) | exact sh_bar (by omega) | exact sh_term (by omega) | exact sh_sheet (by omega) | exact sh_items (by omega) | exact sh_sums (by omega)) rfl rfl ?_
        try rw [nI_pred]
        refine c_X7_priceAt hw h73 (show m < w by omega) ?_
        rw [e77]
        refine aK_i ?_
        refine wp_cV (pc := 51) dX7_suits_51 lk_7_64 rfl (by decide) rfl (by first | rfl | assumption | exact sh_house (by omega) | exact sh_wish (by omega) | exact sh_wor (by omega) | exact sh_bar (by omega) | exact sh_term (by omega) | exact sh_sheet (by omega) | exact sh_items (by omega) | exact sh_sums (by omega)) rfl rfl ?_
        rw [side_i (show m + 1 < 2 ^ 31 by omega)]
        refine c_X4_gained hPr (Nat.mod_lt _ (by decide)) e2 (aK_i ?_)
        refine wp_iload_n (pc := 54) dX7_suits_54 (by first | rfl | assumption | (repeat first | assumption | rfl | refine aG_n ?_ rfl rfl)) ?_
        refine wp_icmp_lt (pc := 55) (tgt := 62) dX7_suits_55 rfl (fun _ => ?_) (fun q => absurd (i_nle2 c3) q)
        refine wp_iconst (pc := 62) (v := 0) dX7_suits_62 (by decide) ?_
        refine wp_ireturn (pc := 63) dX7_suits_63 rfl (by first | rfl | decide | assumption) ?_
        exact kf (fun z => c3 z.2.2)
    · refine wp_iload_n (pc := 0) dX7_suits_0 (by first | rfl | assumption | (repeat first | assumption | rfl | refine aG_n ?_ rfl rfl)) ?_
      refine wp_iconst (pc := 1) (v := 1) dX7_suits_1 (by decide) ?_
      refine wp_isub (pc := 2) dX7_suits_2 ?_
      refine wp_istore (pc := 3) dX7_suits_3 (by decide) ?_
      refine wp_aload_n (pc := 5) dX7_suits_5 (by first | rfl | assumption | (repeat first | assumption | rfl | refine aG_n ?_ rfl rfl)) ?_
      refine wp_iload (pc := 6) dX7_suits_6 (by first | rfl | assumption | (repeat first | assumption | rfl | refine aG_n ?_ rfl rfl)) ?_
      refine wp_cV (pc := 8) dX7_suits_8 lk_7_49 rfl (by decide) rfl (by first | rfl | assumption | exact sh_house (by omega) | exact sh_wish (by omega) | exact sh_wor (by omega) | exact sh_bar (by omega) | exact sh_term (by omega) | exact sh_sheet (by omega) | exact sh_items (by omega) | exact sh_sums (by omega)) rfl rfl (n_isOffer hw h73 hk1 (fun _ => aK_i ?_) (fun q => absurd c1' q))
      refine wp_if_eq (pc := 11) (tgt := 62) dX7_suits_11 rfl (fun q => absurd q (by decide)) (fun _ => ?_)
      refine wp_aload_n (pc := 14) dX7_suits_14 (by first | rfl | assumption | (repeat first | assumption | rfl | refine aG_n ?_ rfl rfl)) ?_
      refine wp_aload_n (pc := 15) dX7_suits_15 (by first | rfl | assumption | (repeat first | assumption | rfl | refine aG_n ?_ rfl rfl)) ?_
      refine wp_iload (pc := 16) dX7_suits_16 (by first | rfl | assumption | (repeat first | assumption | rfl | refine aG_n ?_ rfl rfl)) ?_
      refine wp_cV (pc := 18) dX7_suits_18 lk_7_52 rfl (by decide) rfl (by first | rfl | assumption | exact sh_house (by omega) | exact sh_wish (by omega) | exact sh_wor (by omega) | exact sh_bar (by omega) | exact sh_term (by omega) | exact sh_sheet (by omega) | exact sh_items (by omega) | exact sh_sums (by omega)) rfl rfl ?_
      try rw [nI_pred]
      refine c_X7_setAt hw h73 (show m < w by omega) ?_
      rw [e76]
      refine aK_i ?_
      refine wp_aload_n (pc := 21) dX7_suits_21 (by first | rfl | assumption | (repeat first | assumption | rfl | refine aG_n ?_ rfl rfl)) ?_
      refine wp_iload (pc := 22) dX7_suits_22 (by first | rfl | assumption | (repeat first | assumption | rfl | refine aG_n ?_ rfl rfl)) ?_
      refine wp_cV (pc := 24) dX7_suits_24 lk_7_55 rfl (by decide) rfl (by first | rfl | assumption | exact sh_house (by omega) | exact sh_wish (by omega) | exact sh_wor (by omega) | exact sh_bar (by omega) | exact sh_term (by omega) | exact sh_sheet (by omega) | exact sh_items (by omega) | exact sh_sums (by omega)) rfl rfl ?_
      try rw [nI_pred]
      refine c_X7_priceAt hw h73 (show m < w by omega) ?_
      rw [e77]
      refine aK_i ?_
      refine wp_cV (pc := 27) dX7_suits_27 lk_7_58 rfl (by decide) rfl (by first | rfl | assumption | exact sh_house (by omega) | exact sh_wish (by omega) | exact sh_wor (by omega) | exact sh_bar (by omega) | exact sh_term (by omega) | exact sh_sheet (by omega) | exact sh_items (by omega) | exact sh_sums (by omega)) rfl rfl (c_X4_isGood hPr e2 (fun q => absurd q c2) (fun _ => aK_i ?_))
      refine wp_if_eq (pc := 30) (tgt := 62) dX7_suits_30 rfl (fun _ => ?_) (fun q => absurd q (by decide))
      refine wp_iconst (pc := 62) (v := 0) dX7_suits_62 (by decide) ?_
      refine wp_ireturn (pc := 63) dX7_suits_63 rfl (by first | rfl | decide | assumption) ?_
      exact kf (fun z => c2 z.2.1)
  · refine wp_iload_n (pc := 0) dX7_suits_0 (by first | rfl | assumption | (repeat first | assumption | rfl | refine aG_n ?_ rfl rfl)) ?_
    refine wp_iconst (pc := 1) (v := 1) dX7_suits_1 (by decide) ?_
    refine wp_isub (pc := 2) dX7_suits_2 ?_
    refine wp_istore (pc := 3) dX7_suits_3 (by decide) ?_
    refine wp_aload_n (pc := 5) dX7_suits_5 (by first | rfl | assumption | (repeat first | assumption | rfl | refine aG_n ?_ rfl rfl)) ?_
    refine wp_iload (pc := 6) dX7_suits_6 (by first | rfl | assumption | (repeat first | assumption | rfl | refine aG_n ?_ rfl rfl)) ?_
    refine wp_cV (pc := 8) dX7_suits_8 lk_7_49 rfl (by decide) rfl (by first | rfl | assumption | exact sh_house (by omega) | exact sh_wish (by omega) | exact sh_wor (by omega) | exact sh_bar (by omega) | exact sh_term (by omega) | exact sh_sheet (by omega) | exact sh_items (by omega) | exact sh_sums (by omega)) rfl rfl (n_isOffer hw h73 hk1 (fun q => absurd q (fun z => c1 ((ofW_p hw hn).mp z))) (fun _ => aK_i ?_))
    refine wp_if_eq (pc := 11) (tgt := 62) dX7_suits_11 rfl (fun _ => ?_) (fun q => absurd q (by decide))
    refine wp_iconst (pc := 62) (v := 0) dX7_suits_62 (by decide) ?_
    refine wp_ireturn (pc := 63) dX7_suits_63 rfl (by first | rfl | decide | assumption) ?_
    exact kf (fun z => c1 z.1)
/-- BargainHall.agree, on the side of the class -/
def agM (M : MM) (a b u : Nat) (p : Int32) : MM := up2 (up2 (up2 (up2 M (55 + 4 * a) 0 (M (55 + 4 * a) 0 ^^^ nI u)) (55 + 4 * b) 0 (M (55 + 4 * b) 0 ^^^ nI u)) (55 + 4 * a) 1 (M (55 + 4 * a) 1 - p)) (55 + 4 * b) 1 (M (55 + 4 * b) 1 + p)
theorem c_X11_agree {a b mo m u : Nat} {p : Int32} (h0 : μ.1 73 0 = 1) (h3 : μ.1 73 3 = nI (m + 1)) (h4 : μ.1 73 4 = nI mo) (hw : m + 1 < mo) (hm : mo ≤ 20) (ha : a < 4) (hb : b < 4) (hab : a ≠ b) (h1 : μ.1 73 1 = nI a) (h2 : μ.1 73 2 = nI b) (hu : μ.1 76 m = nI u) (hp : μ.1 77 m = p) (k : Q none (addM (agM μ.1 a b u p) (m + 1) 3 0 0 (zOf 3 (m + 1) mo), μ.2)) : WP X mX11_agree 0 (lv_args 0 [.ref 0]) [] μ Q := by
  refine wp_aload_n (pc := 0) dX11_agree_0 (by first | rfl | assumption | (repeat first | assumption | rfl | refine aG_n ?_ rfl rfl)) ?_
  refine wp_getR (pc := 1) dX11_agree_1 fl_11_92 (by first | rfl | assumption | exact sh_house (by omega) | exact sh_wish (by omega) | exact sh_wor (by omega) | exact sh_bar (by omega) | exact sh_term (by omega) | exact sh_sheet (by omega) | exact sh_items (by omega) | exact sh_sums (by omega)) rfl ?_
  refine wp_aload_n (pc := 4) dX11_agree_4 (by first | rfl | assumption | (repeat first | assumption | rfl | refine aG_n ?_ rfl rfl)) ?_
  refine wp_getR (pc := 5) dX11_agree_5 fl_11_92 (by first | rfl | assumption | exact sh_house (by omega) | exact sh_wish (by omega) | exact sh_wor (by omega) | exact sh_bar (by omega) | exact sh_term (by omega) | exact sh_sheet (by omega) | exact sh_items (by omega) | exact sh_sums (by omega)) rfl ?_
  refine wp_getI (pc := 8) dX11_agree_8 fl_11_209 (by first | rfl | assumption | exact sh_house (by omega) | exact sh_wish (by omega) | exact sh_wor (by omega) | exact sh_bar (by omega) | exact sh_term (by omega) | exact sh_sheet (by omega) | exact sh_items (by omega) | exact sh_sums (by omega)) rfl ?_
  refine wp_iconst (pc := 11) (v := 1) dX11_agree_11 (by decide) ?_
  refine wp_isub (pc := 12) dX11_agree_12 ?_
  refine wp_cV (pc := 13) dX11_agree_13 lk_11_237 rfl (by decide) rfl (by first | rfl | assumption | exact sh_house (by omega) | exact sh_wish (by omega) | exact sh_wor (by omega) | exact sh_bar (by omega) | exact sh_term (by omega) | exact sh_sheet (by omega) | exact sh_items (by omega) | exact sh_sums (by omega)) rfl rfl ?_
  rw [h3, nI_pred]
  refine c_X7_setAt (w := m + 1) (by omega) h3 (by omega) ?_
  rw [hu]
  refine aK_i ?_
  refine wp_istore_n (pc := 16) dX11_agree_16 (by decide) ?_
  refine wp_aload_n (pc := 17) dX11_agree_17 (by first | rfl | assumption | (repeat first | assumption | rfl | refine aG_n ?_ rfl rfl)) ?_
  refine wp_getR (pc := 18) dX11_agree_18 fl_11_92 (by first | rfl | assumption | exact sh_house (by omega) | exact sh_wish (by omega) | exact sh_wor (by omega) | exact sh_bar (by omega) | exact sh_term (by omega) | exact sh_sheet (by omega) | exact sh_items (by omega) | exact sh_sums (by omega)) rfl ?_
  refine wp_aload_n (pc := 21) dX11_agree_21 (by first | rfl | assumption | (repeat first | assumption | rfl | refine aG_n ?_ rfl rfl)) ?_
  refine wp_getR (pc := 22) dX11_agree_22 fl_11_92 (by first | rfl | assumption | exact sh_house (by omega) | exact sh_wish (by omega) | exact sh_wor (by omega) | exact sh_bar (by omega) | exact sh_term (by omega) | exact sh_sheet (by omega) | exact sh_items (by omega) | exact sh_sums (by omega)) rfl ?_
  refine wp_getI (pc := 25) dX11_agree_25 fl_11_209 (by first | rfl | assumption | exact sh_house (by omega) | exact sh_wish (by omega) | exact sh_wor (by omega) | exact sh_bar (by omega) | exact sh_term (by omega) | exact sh_sheet (by omega) | exact sh_items (by omega) | exact sh_sums (by omega)) rfl ?_
  refine wp_iconst (pc := 28) (v := 1) dX11_agree_28 (by decide) ?_
  refine wp_isub (pc := 29) dX11_agree_29 ?_
  refine wp_cV (pc := 30) dX11_agree_30 lk_11_240 rfl (by decide) rfl (by first | rfl | assumption | exact sh_house (by omega) | exact sh_wish (by omega) | exact sh_wor (by omega) | exact sh_bar (by omega) | exact sh_term (by omega) | exact sh_sheet (by omega) | exact sh_items (by omega) | exact sh_sums (by omega)) rfl rfl ?_
  rw [h3, nI_pred]
  refine c_X7_priceAt (w := m + 1) (by omega) h3 (by omega) ?_
  rw [hp]
  refine aK_i ?_
  refine wp_istore_n (pc := 33) dX11_agree_33 (by decide) ?_
  refine wp_aload_n (pc := 34) dX11_agree_34 (by first | rfl | assumption | (repeat first | assumption | rfl | refine aG_n ?_ rfl rfl)) ?_
  refine wp_getR (pc := 35) dX11_agree_35 fl_11_11 (by first | rfl | assumption | exact sh_house (by omega) | exact sh_wish (by omega) | exact sh_wor (by omega) | exact sh_bar (by omega) | exact sh_term (by omega) | exact sh_sheet (by omega) | exact sh_items (by omega) | exact sh_sums (by omega)) rfl ?_
  refine wp_aload_n (pc := 38) dX11_agree_38 (by first | rfl | assumption | (repeat first | assumption | rfl | refine aG_n ?_ rfl rfl)) ?_
  refine wp_getR (pc := 39) dX11_agree_39 fl_11_92 (by first | rfl | assumption | exact sh_house (by omega) | exact sh_wish (by omega) | exact sh_wor (by omega) | exact sh_bar (by omega) | exact sh_term (by omega) | exact sh_sheet (by omega) | exact sh_items (by omega) | exact sh_sums (by omega)) rfl ?_
  refine wp_getI (pc := 42) dX11_agree_42 fl_11_218 (by first | rfl | assumption | exact sh_house (by omega) | exact sh_wish (by omega) | exact sh_wor (by omega) | exact sh_bar (by omega) | exact sh_term (by omega) | exact sh_sheet (by omega) | exact sh_items (by omega) | exact sh_sums (by omega)) rfl ?_
  refine wp_aald (pc := 45) dX11_agree_45 (by first | rfl | assumption | exact sh_house (by omega) | exact sh_wish (by omega) | exact sh_wor (by omega) | exact sh_bar (by omega) | exact sh_term (by omega) | exact sh_sheet (by omega) | exact sh_items (by omega) | exact sh_sums (by omega)) (by rw [h1]; exact vp_in_nI ha (by decide)) (by decide) (show _ = some (55 + 4 * a) by rw [h1]; exact el_house ha) ?_
  refine wp_astore_n (pc := 46) dX11_agree_46 (by decide) ?_
  refine wp_aload_n (pc := 47) dX11_agree_47 (by first | rfl | assumption | (repeat first | assumption | rfl | refine aG_n ?_ rfl rfl)) ?_
  refine wp_getR (pc := 48) dX11_agree_48 fl_11_11 (by first | rfl | assumption | exact sh_house (by omega) | exact sh_wish (by omega) | exact sh_wor (by omega) | exact sh_bar (by omega) | exact sh_term (by omega) | exact sh_sheet (by omega) | exact sh_items (by omega) | exact sh_sums (by omega)) rfl ?_
  refine wp_aload_n (pc := 51) dX11_agree_51 (by first | rfl | assumption | (repeat first | assumption | rfl | refine aG_n ?_ rfl rfl)) ?_
  refine wp_getR (pc := 52) dX11_agree_52 fl_11_92 (by first | rfl | assumption | exact sh_house (by omega) | exact sh_wish (by omega) | exact sh_wor (by omega) | exact sh_bar (by omega) | exact sh_term (by omega) | exact sh_sheet (by omega) | exact sh_items (by omega) | exact sh_sums (by omega)) rfl ?_
  refine wp_getI (pc := 55) dX11_agree_55 fl_11_221 (by first | rfl | assumption | exact sh_house (by omega) | exact sh_wish (by omega) | exact sh_wor (by omega) | exact sh_bar (by omega) | exact sh_term (by omega) | exact sh_sheet (by omega) | exact sh_items (by omega) | exact sh_sums (by omega)) rfl ?_
  refine wp_aald (pc := 58) dX11_agree_58 (by first | rfl | assumption | exact sh_house (by omega) | exact sh_wish (by omega) | exact sh_wor (by omega) | exact sh_bar (by omega) | exact sh_term (by omega) | exact sh_sheet (by omega) | exact sh_items (by omega) | exact sh_sums (by omega)) (by rw [h2]; exact vp_in_nI hb (by decide)) (by decide) (show _ = some (55 + 4 * b) by rw [h2]; exact el_house hb) ?_
  refine wp_astore (pc := 59) dX11_agree_59 (by decide) ?_
  refine wp_aload_n (pc := 61) dX11_agree_61 (by first | rfl | assumption | (repeat first | assumption | rfl | refine aG_n ?_ rfl rfl)) ?_
  refine wp_dupr (pc := 62) dX11_agree_62 ?_
  refine wp_getI (pc := 63) dX11_agree_63 fl_11_71 (by first | rfl | assumption | exact sh_house (by omega) | exact sh_wish (by omega) | exact sh_wor (by omega) | exact sh_bar (by omega) | exact sh_term (by omega) | exact sh_sheet (by omega) | exact sh_items (by omega) | exact sh_sums (by omega)) rfl ?_
  refine wp_iload_n (pc := 66) dX11_agree_66 (by first | rfl | assumption | (repeat first | assumption | rfl | refine aG_n ?_ rfl rfl)) ?_
  refine wp_ixor (pc := 67) dX11_agree_67 ?_
  refine wp_putI (pc := 68) dX11_agree_68 fl_11_71 (by first | rfl | assumption | exact sh_house (by omega) | exact sh_wish (by omega) | exact sh_wor (by omega) | exact sh_bar (by omega) | exact sh_term (by omega) | exact sh_sheet (by omega) | exact sh_items (by omega) | exact sh_sums (by omega)) rfl rfl rfl ?_
  refine wp_aload (pc := 71) dX11_agree_71 (by first | rfl | assumption | (repeat first | assumption | rfl | refine aG_n ?_ rfl rfl)) ?_
  refine wp_dupr (pc := 73) dX11_agree_73 ?_
  refine wp_getI (pc := 74) dX11_agree_74 fl_11_71 (by first | rfl | assumption | exact sh_house (by omega) | exact sh_wish (by omega) | exact sh_wor (by omega) | exact sh_bar (by omega) | exact sh_term (by omega) | exact sh_sheet (by omega) | exact sh_items (by omega) | exact sh_sums (by omega)) rfl ?_
  refine wp_iload_n (pc := 77) dX11_agree_77 (by first | rfl | assumption | (repeat first | assumption | rfl | refine aG_n ?_ rfl rfl)) ?_
  refine wp_ixor (pc := 78) dX11_agree_78 ?_
  refine wp_putI (pc := 79) dX11_agree_79 fl_11_71 (by first | rfl | assumption | exact sh_house (by omega) | exact sh_wish (by omega) | exact sh_wor (by omega) | exact sh_bar (by omega) | exact sh_term (by omega) | exact sh_sheet (by omega) | exact sh_items (by omega) | exact sh_sums (by omega)) rfl rfl rfl ?_
  refine wp_aload_n (pc := 82) dX11_agree_82 (by first | rfl | assumption | (repeat first | assumption | rfl | refine aG_n ?_ rfl rfl)) ?_
  refine wp_dupr (pc := 83) dX11_agree_83 ?_
  refine wp_getI (pc := 84) dX11_agree_84 fl_11_116 (by first | rfl | assumption | exact sh_house (by omega) | exact sh_wish (by omega) | exact sh_wor (by omega) | exact sh_bar (by omega) | exact sh_term (by omega) | exact sh_sheet (by omega) | exact sh_items (by omega) | exact sh_sums (by omega)) rfl ?_
  refine wp_iload_n (pc := 87) dX11_agree_87 (by first | rfl | assumption | (repeat first | assumption | rfl | refine aG_n ?_ rfl rfl)) ?_
  refine wp_isub (pc := 88) dX11_agree_88 ?_
  refine wp_putI (pc := 89) dX11_agree_89 fl_11_116 (by first | rfl | assumption | exact sh_house (by omega) | exact sh_wish (by omega) | exact sh_wor (by omega) | exact sh_bar (by omega) | exact sh_term (by omega) | exact sh_sheet (by omega) | exact sh_items (by omega) | exact sh_sums (by omega)) rfl rfl rfl ?_
  refine wp_aload (pc := 92) dX11_agree_92 (by first | rfl | assumption | (repeat first | assumption | rfl | refine aG_n ?_ rfl rfl)) ?_
  refine wp_dupr (pc := 94) dX11_agree_94 ?_
  refine wp_getI (pc := 95) dX11_agree_95 fl_11_116 (by first | rfl | assumption | exact sh_house (by omega) | exact sh_wish (by omega) | exact sh_wor (by omega) | exact sh_bar (by omega) | exact sh_term (by omega) | exact sh_sheet (by omega) | exact sh_items (by omega) | exact sh_sums (by omega)) rfl ?_
  refine wp_iload_n (pc := 98) dX11_agree_98 (by first | rfl | assumption | (repeat first | assumption | rfl | refine aG_n ?_ rfl rfl)) ?_
  refine wp_iadd (pc := 99) dX11_agree_99 ?_
  refine wp_putI (pc := 100) dX11_agree_100 fl_11_116 (by first | rfl | assumption | exact sh_house (by omega) | exact sh_wish (by omega) | exact sh_wor (by omega) | exact sh_bar (by omega) | exact sh_term (by omega) | exact sh_sheet (by omega) | exact sh_items (by omega) | exact sh_sums (by omega)) rfl rfl rfl ?_
  refine wp_aload_n (pc := 103) dX11_agree_103 (by first | rfl | assumption | (repeat first | assumption | rfl | refine aG_n ?_ rfl rfl)) ?_
  refine wp_getR (pc := 104) dX11_agree_104 fl_11_92 (by first | rfl | assumption | exact sh_house (by omega) | exact sh_wish (by omega) | exact sh_wor (by omega) | exact sh_bar (by omega) | exact sh_term (by omega) | exact sh_sheet (by omega) | exact sh_items (by omega) | exact sh_sums (by omega)) rfl ?_
  refine wp_iconst (pc := 107) (v := 3) dX11_agree_107 (by decide) ?_
  refine wp_iconst (pc := 108) (v := 0) dX11_agree_108 (by decide) ?_
  refine wp_iconst (pc := 109) (v := 0) dX11_agree_109 (by decide) ?_
  refine wp_cV (pc := 110) dX11_agree_110 lk_11_215 rfl (by decide) rfl (by first | rfl | assumption | exact sh_house (by omega) | exact sh_wish (by omega) | exact sh_wor (by omega) | exact sh_bar (by omega) | exact sh_term (by omega) | exact sh_sheet (by omega) | exact sh_items (by omega) | exact sh_sums (by omega)) rfl rfl (c_X7_add (w := m + 1) (mo := mo) (by dsimp only; simp (disch := omega) only [up2_ne]; exact h0) (by dsimp only; simp (disch := omega) only [up2_ne]; exact h3) (by dsimp only; simp (disch := omega) only [up2_ne]; exact h4) hw hm (aK_v ?_))
  refine wp_vreturn (pc := 113) dX11_agree_113 rfl ?_
  refine mEq ?_ k
  simp (disch := omega) only [agM, up2_ne, up2_p]
/-- agree, on the side of the model -/
def sw87 (M : MM) (a b u t : Nat) : MM := fun x y => if x = 87 ∧ y < t ∧ u.testBit y = true then (if M 87 y = nI a then nI b else nI a) else M x y
theorem sw_0 (M : MM) (a b u : Nat) : sw87 M a b u 0 = M := by
  funext x y; unfold sw87; rw [if_neg (by omega)]
theorem sw_y {M : MM} {a b u t : Nat} (h : u.testBit t = true) : up2 (sw87 M a b u t) 87 t (if M 87 t = nI a then nI b else nI a) = sw87 M a b u (t + 1) := by
  funext x y
  unfold up2 sw87
  by_cases h1 : x = 87 ∧ y = t
  · rw [if_pos h1, if_pos (show x = 87 ∧ y < t + 1 ∧ u.testBit y = true from ⟨h1.1, by omega, by rw [h1.2]; exact h⟩), h1.2]
  · rw [if_neg h1]
    by_cases h2 : x = 87 ∧ y < t ∧ u.testBit y = true
    · rw [if_pos h2, if_pos (show x = 87 ∧ y < t + 1 ∧ u.testBit y = true from ⟨h2.1, by omega, h2.2.2⟩)]
    · rw [if_neg h2, if_neg (show ¬ (x = 87 ∧ y < t + 1 ∧ u.testBit y = true) from fun z => h2 ⟨z.1, by omega, z.2.2⟩)]
theorem sw_n {M : MM} {a b u t : Nat} (h : ¬ u.testBit t = true) : sw87 M a b u t = sw87 M a b u (t + 1) := by
  funext x y
  unfold sw87
  by_cases h2 : x = 87 ∧ y < t ∧ u.testBit y = true
  · rw [if_pos h2, if_pos (show x = 87 ∧ y < t + 1 ∧ u.testBit y = true from ⟨h2.1, by omega, h2.2.2⟩)]
  · rw [if_neg h2, if_neg (show ¬ (x = 87 ∧ y < t + 1 ∧ u.testBit y = true) from fun z => by
      by_cases e : y = t
      · exact h (e ▸ z.2.2)
      · exact h2 ⟨z.1, by omega, z.2.2⟩)]
theorem sw_ne {M : MM} {a b u t x : Nat} (h : x ≠ 87) : sw87 M a b u t x = M x := by
  funext y; unfold sw87; rw [if_neg (by omega)]
theorem sw_at {M : MM} {a b u t : Nat} : sw87 M a b u t 87 t = M 87 t := by
  unfold sw87; rw [if_neg (by omega)]
theorem l_m_agree {a b u : Nat} {p : Int32} (hu : u < 64) (h16 : μ.1 86 16 = nI a) (h17 : μ.1 86 17 = nI b) (k : ∀ L : aL, aL_get L 0 = some (.ref 86) → aL_get L 2 = some (.int p) → WP X mX12_agree 77 L [] (sw87 μ.1 a b u 6, μ.2) Q) : ∀ (f t : Nat), t + f = 6 → ∀ L : aL, aL_get L 0 = some (.ref 86) → aL_get L 1 = some (.int (nI u)) → aL_get L 2 = some (.int p) → aL_get L 3 = some (.int (nI t)) → WP X mX12_agree 26 L [] (sw87 μ.1 a b u t, μ.2) Q
  | 0, t, ht, L, g0, g1, g2, g3 => by
    obtain rfl : t = 6 := by omega
    refine wp_iload_n (pc := 26) dX12_agree_26 (by first | rfl | assumption | (repeat first | assumption | rfl | refine aG_n ?_ rfl rfl)) ?_
    refine wp_bipush (pc := 27) (v := 6) dX12_agree_27 (by decide) ?_
    refine wp_icmp_ge (pc := 29) (tgt := 77) dX12_agree_29 rfl (fun _ => ?_) (fun q => absurd (nI_le (a := 6) (b := 6) (by omega) (by omega)) q)
    exact k _ (by first | rfl | assumption | (repeat first | assumption | rfl | refine aG_n ?_ rfl rfl)) (by first | rfl | assumption | (repeat first | assumption | rfl | refine aG_n ?_ rfl rfl))
  | f + 1, t, ht, L, g0, g1, g2, g3 => by
    have ct : (nI t).toNatClampNeg = t := nI_clamp (by omega)
    have s16 : sw87 μ.1 a b u t 86 16 = nI a := by rw [sw_ne (by omega)]; exact h16
    have s17 : sw87 μ.1 a b u t 86 17 = nI b := by rw [sw_ne (by omega)]; exact h17
    have sat := sw_at (M := μ.1) (a := a) (b := b) (u := u) (t := t)
    by_cases c : u.testBit t = true
    · have e := sw_y (M := μ.1) (a := a) (b := b) c
      by_cases c2 : μ.1 87 t = nI a
      · rw [if_pos c2] at e
        refine wp_iload_n (pc := 26) dX12_agree_26 (by first | rfl | assumption | (repeat first | assumption | rfl | refine aG_n ?_ rfl rfl)) ?_
        refine wp_bipush (pc := 27) (v := 6) dX12_agree_27 (by decide) ?_
        refine wp_icmp_ge (pc := 29) (tgt := 77) dX12_agree_29 rfl (fun q => absurd q (nI_ge (a := t) (b := 6) (by omega) (by omega))) (fun _ => ?_)
        refine wp_iload_n (pc := 32) dX12_agree_32 (by first | rfl | assumption | (repeat first | assumption | rfl | refine aG_n ?_ rfl rfl)) ?_
        refine wp_iload_n (pc := 33) dX12_agree_33 (by first | rfl | assumption | (repeat first | assumption | rfl | refine aG_n ?_ rfl rfl)) ?_
        refine wp_ishr (pc := 34) dX12_agree_34 ?_
        refine wp_iconst (pc := 35) (v := 1) dX12_agree_35 (by decide) ?_
        refine wp_iand (pc := 36) dX12_agree_36 ?_
        refine wp_iconst (pc := 37) (v := 1) dX12_agree_37 (by decide) ?_
        refine wp_icmp_ne (pc := 38) (tgt := 71) dX12_agree_38 rfl (fun q => absurd ((bit_i u hu t (by omega)).mpr c) q) (fun _ => ?_)
        refine wp_aload_n (pc := 41) dX12_agree_41 (by first | rfl | assumption | (repeat first | assumption | rfl | refine aG_n ?_ rfl rfl)) ?_
        refine wp_getR (pc := 42) dX12_agree_42 fl_12_7 (by first | rfl | assumption | exact sh_house (by omega) | exact sh_wish (by omega) | exact sh_wor (by omega) | exact sh_bar (by omega) | exact sh_term (by omega) | exact sh_sheet (by omega) | exact sh_items (by omega) | exact sh_sums (by omega)) rfl ?_
        refine wp_iload_n (pc := 45) dX12_agree_45 (by first | rfl | assumption | (repeat first | assumption | rfl | refine aG_n ?_ rfl rfl)) ?_
        refine wp_aload_n (pc := 46) dX12_agree_46 (by first | rfl | assumption | (repeat first | assumption | rfl | refine aG_n ?_ rfl rfl)) ?_
        refine wp_getR (pc := 47) dX12_agree_47 fl_12_7 (by first | rfl | assumption | exact sh_house (by omega) | exact sh_wish (by omega) | exact sh_wor (by omega) | exact sh_bar (by omega) | exact sh_term (by omega) | exact sh_sheet (by omega) | exact sh_items (by omega) | exact sh_sums (by omega)) rfl ?_
        refine wp_iload_n (pc := 50) dX12_agree_50 (by first | rfl | assumption | (repeat first | assumption | rfl | refine aG_n ?_ rfl rfl)) ?_
        refine wp_iald (pc := 51) dX12_agree_51 (by first | rfl | assumption | exact sh_house (by omega) | exact sh_wish (by omega) | exact sh_wor (by omega) | exact sh_bar (by omega) | exact sh_term (by omega) | exact sh_sheet (by omega) | exact sh_items (by omega) | exact sh_sums (by omega)) (vp_in_nI (by omega) (by decide)) ?_
        refine wp_aload_n (pc := 52) dX12_agree_52 (by first | rfl | assumption | (repeat first | assumption | rfl | refine aG_n ?_ rfl rfl)) ?_
        refine wp_getI (pc := 53) dX12_agree_53 fl_12_235 (by first | rfl | assumption | exact sh_house (by omega) | exact sh_wish (by omega) | exact sh_wor (by omega) | exact sh_bar (by omega) | exact sh_term (by omega) | exact sh_sheet (by omega) | exact sh_items (by omega) | exact sh_sums (by omega)) rfl ?_
        refine wp_icmp_ne (pc := 56) (tgt := 66) dX12_agree_56 rfl (fun q => absurd (by dsimp only; rw [ct, sat, s16]; exact c2) q) (fun _ => ?_)
        refine wp_aload_n (pc := 59) dX12_agree_59 (by first | rfl | assumption | (repeat first | assumption | rfl | refine aG_n ?_ rfl rfl)) ?_
        refine wp_getI (pc := 60) dX12_agree_60 fl_12_238 (by first | rfl | assumption | exact sh_house (by omega) | exact sh_wish (by omega) | exact sh_wor (by omega) | exact sh_bar (by omega) | exact sh_term (by omega) | exact sh_sheet (by omega) | exact sh_items (by omega) | exact sh_sums (by omega)) rfl ?_
        refine wp_goto (pc := 63) (tgt := 70) dX12_agree_63 rfl ?_
        refine wp_iast (pc := 70) dX12_agree_70 (by first | rfl | assumption | exact sh_house (by omega) | exact sh_wish (by omega) | exact sh_wor (by omega) | exact sh_bar (by omega) | exact sh_term (by omega) | exact sh_sheet (by omega) | exact sh_items (by omega) | exact sh_sums (by omega)) (vp_in_nI (by omega) (by decide)) ?_
        refine wp_iinc (pc := 71) dX12_agree_71 (by decide) (by first | rfl | assumption | (repeat first | assumption | rfl | refine aG_n ?_ rfl rfl)) rfl ?_
        refine wp_goto (pc := 74) (tgt := 26) dX12_agree_74 rfl ?_
        dsimp only
        rw [ct, s17, e]
        exact l_m_agree hu h16 h17 k f (t + 1) (by omega) _ (by first | rfl | assumption | (repeat first | assumption | rfl | refine aG_n ?_ rfl rfl)) (by first | rfl | assumption | (repeat first | assumption | rfl | refine aG_n ?_ rfl rfl)) (by first | rfl | assumption | (repeat first | assumption | rfl | refine aG_n ?_ rfl rfl)) (by rw [← nI_i1]; first | rfl | assumption | (repeat first | assumption | rfl | refine aG_n ?_ rfl rfl))
      · rw [if_neg c2] at e
        refine wp_iload_n (pc := 26) dX12_agree_26 (by first | rfl | assumption | (repeat first | assumption | rfl | refine aG_n ?_ rfl rfl)) ?_
        refine wp_bipush (pc := 27) (v := 6) dX12_agree_27 (by decide) ?_
        refine wp_icmp_ge (pc := 29) (tgt := 77) dX12_agree_29 rfl (fun q => absurd q (nI_ge (a := t) (b := 6) (by omega) (by omega))) (fun _ => ?_)
        refine wp_iload_n (pc := 32) dX12_agree_32 (by first | rfl | assumption | (repeat first | assumption | rfl | refine aG_n ?_ rfl rfl)) ?_
        refine wp_iload_n (pc := 33) dX12_agree_33 (by first | rfl | assumption | (repeat first | assumption | rfl | refine aG_n ?_ rfl rfl)) ?_
        refine wp_ishr (pc := 34) dX12_agree_34 ?_
        refine wp_iconst (pc := 35) (v := 1) dX12_agree_35 (by decide) ?_
        refine wp_iand (pc := 36) dX12_agree_36 ?_
        refine wp_iconst (pc := 37) (v := 1) dX12_agree_37 (by decide) ?_
        refine wp_icmp_ne (pc := 38) (tgt := 71) dX12_agree_38 rfl (fun q => absurd ((bit_i u hu t (by omega)).mpr c) q) (fun _ => ?_)
        refine wp_aload_n (pc := 41) dX12_agree_41 (by first | rfl | assumption | (repeat first | assumption | rfl | refine aG_n ?_ rfl rfl)) ?_
        refine wp_getR (pc := 42) dX12_agree_42 fl_12_7 (by first | rfl | assumption | exact sh_house (by omega) | exact sh_wish (by omega) | exact sh_wor (by omega) | exact sh_bar (by omega) | exact sh_term (by omega) | exact sh_sheet (by omega) | exact sh_items (by omega) | exact sh_sums (by omega)) rfl ?_
        refine wp_iload_n (pc := 45) dX12_agree_45 (by first | rfl | assumption | (repeat first | assumption | rfl | refine aG_n ?_ rfl rfl)) ?_
        refine wp_aload_n (pc := 46) dX12_agree_46 (by first | rfl | assumption | (repeat first | assumption | rfl | refine aG_n ?_ rfl rfl)) ?_
        refine wp_getR (pc := 47) dX12_agree_47 fl_12_7 (by first | rfl | assumption | exact sh_house (by omega) | exact sh_wish (by omega) | exact sh_wor (by omega) | exact sh_bar (by omega) | exact sh_term (by omega) | exact sh_sheet (by omega) | exact sh_items (by omega) | exact sh_sums (by omega)) rfl ?_
        refine wp_iload_n (pc := 50) dX12_agree_50 (by first | rfl | assumption | (repeat first | assumption | rfl | refine aG_n ?_ rfl rfl)) ?_
        refine wp_iald (pc := 51) dX12_agree_51 (by first | rfl | assumption | exact sh_house (by omega) | exact sh_wish (by omega) | exact sh_wor (by omega) | exact sh_bar (by omega) | exact sh_term (by omega) | exact sh_sheet (by omega) | exact sh_items (by omega) | exact sh_sums (by omega)) (vp_in_nI (by omega) (by decide)) ?_
        refine wp_aload_n (pc := 52) dX12_agree_52 (by first | rfl | assumption | (repeat first | assumption | rfl | refine aG_n ?_ rfl rfl)) ?_
        refine wp_getI (pc := 53) dX12_agree_53 fl_12_235 (by first | rfl | assumption | exact sh_house (by omega) | exact sh_wish (by omega) | exact sh_wor (by omega) | exact sh_bar (by omega) | exact sh_term (by omega) | exact sh_sheet (by omega) | exact sh_items (by omega) | exact sh_sums (by omega)) rfl ?_
        refine wp_icmp_ne (pc := 56) (tgt := 66) dX12_agree_56 rfl (fun _ => ?_) (fun q => absurd q (by dsimp only; rw [ct, sat, s16]; exact c2))
        refine wp_aload_n (pc := 66) dX12_agree_66 (by first | rfl | assumption | (repeat first | assumption | rfl | refine aG_n ?_ rfl rfl)) ?_
        refine wp_getI (pc := 67) dX12_agree_67 fl_12_235 (by first | rfl | assumption | exact sh_house (by omega) | exact sh_wish (by omega) | exact sh_wor (by omega) | exact sh_bar (by omega) | exact sh_term (by omega) | exact sh_sheet (by omega) | exact sh_items (by omega) | exact sh_sums (by omega)) rfl ?_
        refine wp_iast (pc := 70) dX12_agree_70 (by first | rfl | assumption | exact sh_house (by omega) | exact sh_wish (by omega) | exact sh_wor (by omega) | exact sh_bar (by omega) | exact sh_term (by omega) | exact sh_sheet (by omega) | exact sh_items (by omega) | exact sh_sums (by omega)) (vp_in_nI (by omega) (by decide)) ?_
        refine wp_iinc (pc := 71) dX12_agree_71 (by decide) (by first | rfl | assumption | (repeat first | assumption | rfl | refine aG_n ?_ rfl rfl)) rfl ?_
        refine wp_goto (pc := 74) (tgt := 26) dX12_agree_74 rfl ?_
        dsimp only
        rw [ct, s16, e]
        exact l_m_agree hu h16 h17 k f (t + 1) (by omega) _ (by first | rfl | assumption | (repeat first | assumption | rfl | refine aG_n ?_ rfl rfl)) (by first | rfl | assumption | (repeat first | assumption | rfl | refine aG_n ?_ rfl rfl)) (by first | rfl | assumption | (repeat first | assumption | rfl | refine aG_n ?_ rfl rfl)) (by rw [← nI_i1]; first | rfl | assumption | (repeat first | assumption | rfl | refine aG_n ?_ rfl rfl))
    · have e := sw_n (M := μ.1) (a := a) (b := b) c
      refine wp_iload_n (pc := 26) dX12_agree_26 (by first | rfl | assumption | (repeat first | assumption | rfl | refine aG_n ?_ rfl rfl)) ?_
      refine wp_bipush (pc := 27) (v := 6) dX12_agree_27 (by decide) ?_
      refine wp_icmp_ge (pc := 29) (tgt := 77) dX12_agree_29 rfl (fun q => absurd q (nI_ge (a := t) (b := 6) (by omega) (by omega))) (fun _ => ?_)
      refine wp_iload_n (pc := 32) dX12_agree_32 (by first | rfl | assumption | (repeat first | assumption | rfl | refine aG_n ?_ rfl rfl)) ?_
      refine wp_iload_n (pc := 33) dX12_agree_33 (by first | rfl | assumption | (repeat first | assumption | rfl | refine aG_n ?_ rfl rfl)) ?_
      refine wp_ishr (pc := 34) dX12_agree_34 ?_
      refine wp_iconst (pc := 35) (v := 1) dX12_agree_35 (by decide) ?_
      refine wp_iand (pc := 36) dX12_agree_36 ?_
      refine wp_iconst (pc := 37) (v := 1) dX12_agree_37 (by decide) ?_
      refine wp_icmp_ne (pc := 38) (tgt := 71) dX12_agree_38 rfl (fun _ => ?_) (fun q => absurd q (fun z => c ((bit_i u hu t (by omega)).mp z)))
      refine wp_iinc (pc := 71) dX12_agree_71 (by decide) (by first | rfl | assumption | (repeat first | assumption | rfl | refine aG_n ?_ rfl rfl)) rfl ?_
      refine wp_goto (pc := 74) (tgt := 26) dX12_agree_74 rfl ?_
      rw [e]
      exact l_m_agree hu h16 h17 k f (t + 1) (by omega) _ (by first | rfl | assumption | (repeat first | assumption | rfl | refine aG_n ?_ rfl rfl)) (by first | rfl | assumption | (repeat first | assumption | rfl | refine aG_n ?_ rfl rfl)) (by first | rfl | assumption | (repeat first | assumption | rfl | refine aG_n ?_ rfl rfl)) (by rw [← nI_i1]; first | rfl | assumption | (repeat first | assumption | rfl | refine aG_n ?_ rfl rfl))
theorem c_X12_agree {a b mo m u : Nat} {p : Int32} (h0 : μ.1 86 15 = 1) (h3 : μ.1 86 19 = nI (m + 1)) (h4 : μ.1 86 18 = nI mo) (hw : m + 1 < mo) (hm : mo ≤ 20) (ha : a < 4) (hb : b < 4) (hab : a ≠ b) (h16 : μ.1 86 16 = nI a) (h17 : μ.1 86 17 = nI b) (hu : μ.1 101 m = nI u) (hu6 : u < 64) (hp : μ.1 102 m = p) (k : Q none (sayM (up2 (up2 (sw87 μ.1 a b u 6) 88 a (μ.1 88 a - p)) 88 b (μ.1 88 b + p)) (m + 1) 3 0 0 (zOf 3 (m + 1) mo), μ.2)) : WP X mX12_agree 0 (lv_args 0 [.ref 86]) [] μ Q := by
  have cm : (nI m).toNatClampNeg = m := nI_clamp (by omega)
  have ca : (nI a).toNatClampNeg = a := nI_clamp (by omega)
  have cb : (nI b).toNatClampNeg = b := nI_clamp (by omega)
  refine wp_aload_n (pc := 0) dX12_agree_0 (by first | rfl | assumption | (repeat first | assumption | rfl | refine aG_n ?_ rfl rfl)) ?_
  refine wp_getR (pc := 1) dX12_agree_1 fl_12_53 (by first | rfl | assumption | exact sh_house (by omega) | exact sh_wish (by omega) | exact sh_wor (by omega) | exact sh_bar (by omega) | exact sh_term (by omega) | exact sh_sheet (by omega) | exact sh_items (by omega) | exact sh_sums (by omega)) rfl ?_
  refine wp_aload_n (pc := 4) dX12_agree_4 (by first | rfl | assumption | (repeat first | assumption | rfl | refine aG_n ?_ rfl rfl)) ?_
  refine wp_getI (pc := 5) dX12_agree_5 fl_12_244 (by first | rfl | assumption | exact sh_house (by omega) | exact sh_wish (by omega) | exact sh_wor (by omega) | exact sh_bar (by omega) | exact sh_term (by omega) | exact sh_sheet (by omega) | exact sh_items (by omega) | exact sh_sums (by omega)) rfl ?_
  refine wp_iconst (pc := 8) (v := 1) dX12_agree_8 (by decide) ?_
  refine wp_isub (pc := 9) dX12_agree_9 ?_
  refine wp_iald (pc := 10) dX12_agree_10 (by first | rfl | assumption | exact sh_house (by omega) | exact sh_wish (by omega) | exact sh_wor (by omega) | exact sh_bar (by omega) | exact sh_term (by omega) | exact sh_sheet (by omega) | exact sh_items (by omega) | exact sh_sums (by omega)) (by rw [h3, nI_pred]; exact vp_in_nI (by omega) (by decide)) ?_
  refine wp_istore_n (pc := 11) dX12_agree_11 (by decide) ?_
  refine wp_aload_n (pc := 12) dX12_agree_12 (by first | rfl | assumption | (repeat first | assumption | rfl | refine aG_n ?_ rfl rfl)) ?_
  refine wp_getR (pc := 13) dX12_agree_13 fl_12_56 (by first | rfl | assumption | exact sh_house (by omega) | exact sh_wish (by omega) | exact sh_wor (by omega) | exact sh_bar (by omega) | exact sh_term (by omega) | exact sh_sheet (by omega) | exact sh_items (by omega) | exact sh_sums (by omega)) rfl ?_
  refine wp_aload_n (pc := 16) dX12_agree_16 (by first | rfl | assumption | (repeat first | assumption | rfl | refine aG_n ?_ rfl rfl)) ?_
  refine wp_getI (pc := 17) dX12_agree_17 fl_12_244 (by first | rfl | assumption | exact sh_house (by omega) | exact sh_wish (by omega) | exact sh_wor (by omega) | exact sh_bar (by omega) | exact sh_term (by omega) | exact sh_sheet (by omega) | exact sh_items (by omega) | exact sh_sums (by omega)) rfl ?_
  refine wp_iconst (pc := 20) (v := 1) dX12_agree_20 (by decide) ?_
  refine wp_isub (pc := 21) dX12_agree_21 ?_
  refine wp_iald (pc := 22) dX12_agree_22 (by first | rfl | assumption | exact sh_house (by omega) | exact sh_wish (by omega) | exact sh_wor (by omega) | exact sh_bar (by omega) | exact sh_term (by omega) | exact sh_sheet (by omega) | exact sh_items (by omega) | exact sh_sums (by omega)) (by rw [h3, nI_pred]; exact vp_in_nI (by omega) (by decide)) ?_
  refine wp_istore_n (pc := 23) dX12_agree_23 (by decide) ?_
  refine wp_iconst (pc := 24) (v := 0) dX12_agree_24 (by decide) ?_
  refine wp_istore_n (pc := 25) dX12_agree_25 (by decide) ?_
  skip
  rw [h3, nI_pred, cm, hu, hp]
  have hk : ∀ L : aL, aL_get L 0 = some (.ref 86) → aL_get L 2 = some (.int p) → WP X mX12_agree 77 L [] (sw87 μ.1 a b u 6, μ.2) Q := by
    intro L g0 g2
    have s16 : sw87 μ.1 a b u 6 86 16 = nI a := by rw [sw_ne (by omega)]; exact h16
    have s17 : sw87 μ.1 a b u 6 86 17 = nI b := by rw [sw_ne (by omega)]; exact h17
    refine wp_aload_n (pc := 77) dX12_agree_77 (by first | rfl | assumption | (repeat first | assumption | rfl | refine aG_n ?_ rfl rfl)) ?_
    refine wp_getR (pc := 78) dX12_agree_78 fl_12_13 (by first | rfl | assumption | exact sh_house (by omega) | exact sh_wish (by omega) | exact sh_wor (by omega) | exact sh_bar (by omega) | exact sh_term (by omega) | exact sh_sheet (by omega) | exact sh_items (by omega) | exact sh_sums (by omega)) rfl ?_
    refine wp_aload_n (pc := 81) dX12_agree_81 (by first | rfl | assumption | (repeat first | assumption | rfl | refine aG_n ?_ rfl rfl)) ?_
    refine wp_getI (pc := 82) dX12_agree_82 fl_12_235 (by first | rfl | assumption | exact sh_house (by omega) | exact sh_wish (by omega) | exact sh_wor (by omega) | exact sh_bar (by omega) | exact sh_term (by omega) | exact sh_sheet (by omega) | exact sh_items (by omega) | exact sh_sums (by omega)) rfl ?_
    refine wp_dup2 (pc := 85) dX12_agree_85 ?_
    refine wp_iald (pc := 86) dX12_agree_86 (by first | rfl | assumption | exact sh_house (by omega) | exact sh_wish (by omega) | exact sh_wor (by omega) | exact sh_bar (by omega) | exact sh_term (by omega) | exact sh_sheet (by omega) | exact sh_items (by omega) | exact sh_sums (by omega)) (by dsimp only; rw [s16]; exact vp_in_nI ha (by decide)) ?_
    refine wp_iload_n (pc := 87) dX12_agree_87 (by first | rfl | assumption | (repeat first | assumption | rfl | refine aG_n ?_ rfl rfl)) ?_
    refine wp_isub (pc := 88) dX12_agree_88 ?_
    refine wp_iast (pc := 89) dX12_agree_89 (by first | rfl | assumption | exact sh_house (by omega) | exact sh_wish (by omega) | exact sh_wor (by omega) | exact sh_bar (by omega) | exact sh_term (by omega) | exact sh_sheet (by omega) | exact sh_items (by omega) | exact sh_sums (by omega)) (by dsimp only; rw [s16]; exact vp_in_nI ha (by decide)) ?_
    refine wp_aload_n (pc := 90) dX12_agree_90 (by first | rfl | assumption | (repeat first | assumption | rfl | refine aG_n ?_ rfl rfl)) ?_
    refine wp_getR (pc := 91) dX12_agree_91 fl_12_13 (by first | rfl | assumption | exact sh_house (by omega) | exact sh_wish (by omega) | exact sh_wor (by omega) | exact sh_bar (by omega) | exact sh_term (by omega) | exact sh_sheet (by omega) | exact sh_items (by omega) | exact sh_sums (by omega)) rfl ?_
    refine wp_aload_n (pc := 94) dX12_agree_94 (by first | rfl | assumption | (repeat first | assumption | rfl | refine aG_n ?_ rfl rfl)) ?_
    refine wp_getI (pc := 95) dX12_agree_95 fl_12_238 (by first | rfl | assumption | exact sh_house (by omega) | exact sh_wish (by omega) | exact sh_wor (by omega) | exact sh_bar (by omega) | exact sh_term (by omega) | exact sh_sheet (by omega) | exact sh_items (by omega) | exact sh_sums (by omega)) rfl ?_
    refine wp_dup2 (pc := 98) dX12_agree_98 ?_
    refine wp_iald (pc := 99) dX12_agree_99 (by first | rfl | assumption | exact sh_house (by omega) | exact sh_wish (by omega) | exact sh_wor (by omega) | exact sh_bar (by omega) | exact sh_term (by omega) | exact sh_sheet (by omega) | exact sh_items (by omega) | exact sh_sums (by omega)) (by dsimp only; rw [up2_ne (by omega), s17]; exact vp_in_nI hb (by decide)) ?_
    refine wp_iload_n (pc := 100) dX12_agree_100 (by first | rfl | assumption | (repeat first | assumption | rfl | refine aG_n ?_ rfl rfl)) ?_
    refine wp_iadd (pc := 101) dX12_agree_101 ?_
    refine wp_iast (pc := 102) dX12_agree_102 (by first | rfl | assumption | exact sh_house (by omega) | exact sh_wish (by omega) | exact sh_wor (by omega) | exact sh_bar (by omega) | exact sh_term (by omega) | exact sh_sheet (by omega) | exact sh_items (by omega) | exact sh_sums (by omega)) (by dsimp only; rw [up2_ne (by omega), s17]; exact vp_in_nI hb (by decide)) ?_
    refine wp_aload_n (pc := 103) dX12_agree_103 (by first | rfl | assumption | (repeat first | assumption | rfl | refine aG_n ?_ rfl rfl)) ?_
    refine wp_iconst (pc := 104) (v := 3) dX12_agree_104 (by decide) ?_
    refine wp_iconst (pc := 105) (v := 0) dX12_agree_105 (by decide) ?_
    refine wp_iconst (pc := 106) (v := 0) dX12_agree_106 (by decide) ?_
    refine wp_cV (pc := 107) dX12_agree_107 lk_12_262 rfl (by decide) rfl (by first | rfl | assumption | exact sh_house (by omega) | exact sh_wish (by omega) | exact sh_wor (by omega) | exact sh_bar (by omega) | exact sh_term (by omega) | exact sh_sheet (by omega) | exact sh_items (by omega) | exact sh_sums (by omega)) rfl rfl (c_X12_say (w := m + 1) (mo := mo) (by dsimp only; simp (disch := omega) only [up2_ne, sw_ne]; exact h3) (by dsimp only; simp (disch := omega) only [up2_ne, sw_ne]; exact h0) (by dsimp only; simp (disch := omega) only [up2_ne, sw_ne]; exact h4) hw hm (aK_v ?_))
    refine wp_vreturn (pc := 110) dX12_agree_110 rfl ?_
    refine mEq ?_ k
    simp (disch := omega) only [up2_ne, up2_p, sw_ne, h16, h17, ca, cb]
  have := l_m_agree hu6 h16 h17 hk 6 0 (by omega)
  rw [sw_0] at this
  exact this _ (by first | rfl | assumption | (repeat first | assumption | rfl | refine aG_n ?_ rfl rfl)) (by first | rfl | assumption | (repeat first | assumption | rfl | refine aG_n ?_ rfl rfl)) (by first | rfl | assumption | (repeat first | assumption | rfl | refine aG_n ?_ rfl rfl)) (by first | rfl | assumption | (repeat first | assumption | rfl | refine aG_n ?_ rfl rfl))
end YES
/-! yesGain -/
def yG (M : MM) (a b w : Nat) : Int32 := gnp M (two (th M a) (th M b)) (two (56 + 4 * a) (56 + 4 * b)) (w % 2) (wu M (w - 1)) (M 102 (w - 1))
def yP (M : MM) (a b w : Nat) : Prop := (0 < w ∧ isOf M (w - 1)) ∧ goM M a b (wu M (w - 1)) (M 102 (w - 1)) ∧ M 89 (two a b (w % 2)) ≤ yG M a b w
theorem two_lt {a b d : Nat} (ha : a < 4) (hb : b < 4) : two a b d < 4 := by unfold two; split <;> assumption
theorem two_if {a b w : Nat} {x y : Int32} (hx : x = nI a) (hy : y = nI b) : (if w % 2 = 0 then x else y) = nI (two a b (w % 2)) := by
  unfold two; subst hx; subst hy
  split <;> rfl
section YG
variable {X : aX} {μ : Mm} {Q : Option Value → Mm → Prop} {a b w : Nat}
theorem c_X12_yesGain (hW : I_wish μ.1) (ha : a < 4) (hb : b < 4) (hab : a ≠ b) (h16 : μ.1 86 16 = nI a) (h17 : μ.1 86 17 = nI b) (h19 : μ.1 86 19 = nI w) (hw : w ≤ 20) (hof : ∀ q, q < w → isOf μ.1 q → μ.1 101 q = nI (wu μ.1 q) ∧ wu μ.1 q < 64) (kt : yP μ.1 a b w → Q (some (.int (yG μ.1 a b w))) μ) (kf : ¬ yP μ.1 a b w → Q (some (.int (-10002))) μ) : WP X mX12_yesGain 0 (lv_args 0 [.ref 86]) [] μ Q := by
  by_cases c1 : 0 < w ∧ isOf μ.1 (w - 1)
  · have c1' := (ofW_p hw (Nat.le_refl w)).mpr c1
    rw [← h19] at c1'
    obtain ⟨m, rfl⟩ : ∃ m, w = m + 1 := ⟨w - 1, by omega⟩
    unfold yP yG at kt kf
    simp only [Nat.add_sub_cancel] at kt kf c1
    obtain ⟨e1, e2⟩ := hof m (by omega) c1.2
    have em : (μ.1 86 19 - 1).toNatClampNeg = m := by rw [h19, nI_pred, nI_clamp (by omega)]
    have em2 : (nI (m + 1) - 1).toNatClampNeg = m := by rw [nI_pred, nI_clamp (by omega)]
    have bm2 : vp_in (nI (m + 1) - 1) 20 := by rw [nI_pred]; exact vp_in_nI (by omega) (by decide)
    have bm : vp_in (μ.1 86 19 - 1) 20 := by rw [h19, nI_pred]; exact vp_in_nI (by omega) (by decide)
    by_cases c2 : goM μ.1 a b (wu μ.1 m) (μ.1 102 m)
    · obtain hd | hd : (m + 1) % 2 = 0 ∨ (m + 1) % 2 = 1 := by omega
      · have ewh := two_if (w := m + 1) h16 h17
        rw [hd] at kt kf
        rw [hd, if_pos rfl] at ewh
        replace ewh : μ.1 86 16 = nI a := h16
        have eg : gnp μ.1 (two (th μ.1 a) (th μ.1 b)) (two (56 + 4 * a) (56 + 4 * b)) 0 (wu μ.1 m) (μ.1 102 m) = μ.1 (57 + 4 * a) (th μ.1 a ^^^ wu μ.1 m) - μ.1 (57 + 4 * a) (th μ.1 a) + -μ.1 102 m := by
          unfold gnp; rw [if_pos rfl, gnd_0, Int32.sub_eq_add_neg]
        rw [eg] at kt kf
        have ca : (nI a).toNatClampNeg = a := nI_clamp (by omega)
        by_cases c3 : μ.1 89 a ≤ μ.1 (57 + 4 * a) (th μ.1 a ^^^ wu μ.1 m) - μ.1 (57 + 4 * a) (th μ.1 a) + -μ.1 102 m
        · refine wp_aload_n (pc := 0) dX12_yesGain_0 (by first | rfl | assumption | (repeat first | assumption | rfl | refine aG_n ?_ rfl rfl)) ?_
          refine wp_getI (pc := 1) dX12_yesGain_1 fl_12_244 (by first | rfl | assumption | exact sh_house (by omega) | exact sh_wish (by omega) | exact sh_wor (by omega) | exact sh_bar (by omega) | exact sh_term (by omega) | exact sh_sheet (by omega) | exact sh_items (by omega) | exact sh_sums (by omega)) rfl ?_
          refine wp_iconst (pc := 4) (v := 1) dX12_yesGain_4 (by decide) ?_
          refine wp_isub (pc := 5) dX12_yesGain_5 ?_
          refine wp_istore_n (pc := 6) dX12_yesGain_6 (by decide) ?_
          refine wp_aload_n (pc := 7) dX12_yesGain_7 (by first | rfl | assumption | (repeat first | assumption | rfl | refine aG_n ?_ rfl rfl)) ?_
          refine wp_iload_n (pc := 8) dX12_yesGain_8 (by first | rfl | assumption | (repeat first | assumption | rfl | refine aG_n ?_ rfl rfl)) ?_
          refine wp_cV (pc := 9) dX12_yesGain_9 lk_12_266 rfl (by decide) rfl (by first | rfl | assumption | exact sh_house (by omega) | exact sh_wish (by omega) | exact sh_wor (by omega) | exact sh_bar (by omega) | exact sh_term (by omega) | exact sh_sheet (by omega) | exact sh_items (by omega) | exact sh_sums (by omega)) rfl rfl (c_X12_isOffer hw h19 (fun _ => aK_i ?_) (fun q => absurd c1' q))
          refine wp_if_eq (pc := 12) (tgt := 42) dX12_yesGain_12 rfl (fun q => absurd q (by decide)) (fun _ => ?_)
          refine wp_aload_n (pc := 15) dX12_yesGain_15 (by first | rfl | assumption | (repeat first | assumption | rfl | refine aG_n ?_ rfl rfl)) ?_
          refine wp_aload_n (pc := 16) dX12_yesGain_16 (by first | rfl | assumption | (repeat first | assumption | rfl | refine aG_n ?_ rfl rfl)) ?_
          refine wp_getI (pc := 17) dX12_yesGain_17 fl_12_235 (by first | rfl | assumption | exact sh_house (by omega) | exact sh_wish (by omega) | exact sh_wor (by omega) | exact sh_bar (by omega) | exact sh_term (by omega) | exact sh_sheet (by omega) | exact sh_items (by omega) | exact sh_sums (by omega)) rfl ?_
          refine wp_aload_n (pc := 20) dX12_yesGain_20 (by first | rfl | assumption | (repeat first | assumption | rfl | refine aG_n ?_ rfl rfl)) ?_
          refine wp_getI (pc := 21) dX12_yesGain_21 fl_12_238 (by first | rfl | assumption | exact sh_house (by omega) | exact sh_wish (by omega) | exact sh_wor (by omega) | exact sh_bar (by omega) | exact sh_term (by omega) | exact sh_sheet (by omega) | exact sh_items (by omega) | exact sh_sums (by omega)) rfl ?_
          refine wp_aload_n (pc := 24) dX12_yesGain_24 (by first | rfl | assumption | (repeat first | assumption | rfl | refine aG_n ?_ rfl rfl)) ?_
          refine wp_getR (pc := 25) dX12_yesGain_25 fl_12_53 (by first | rfl | assumption | exact sh_house (by omega) | exact sh_wish (by omega) | exact sh_wor (by omega) | exact sh_bar (by omega) | exact sh_term (by omega) | exact sh_sheet (by omega) | exact sh_items (by omega) | exact sh_sums (by omega)) rfl ?_
          refine wp_iload_n (pc := 28) dX12_yesGain_28 (by first | rfl | assumption | (repeat first | assumption | rfl | refine aG_n ?_ rfl rfl)) ?_
          refine wp_iald (pc := 29) dX12_yesGain_29 (by first | rfl | assumption | exact sh_house (by omega) | exact sh_wish (by omega) | exact sh_wor (by omega) | exact sh_bar (by omega) | exact sh_term (by omega) | exact sh_sheet (by omega) | exact sh_items (by omega) | exact sh_sums (by omega)) (by assumption) ?_
          refine wp_aload_n (pc := 30) dX12_yesGain_30 (by first | rfl | assumption | (repeat first | assumption | rfl | refine aG_n ?_ rfl rfl)) ?_
          refine wp_getR (pc := 31) dX12_yesGain_31 fl_12_56 (by first | rfl | assumption | exact sh_house (by omega) | exact sh_wish (by omega) | exact sh_wor (by omega) | exact sh_bar (by omega) | exact sh_term (by omega) | exact sh_sheet (by omega) | exact sh_items (by omega) | exact sh_sums (by omega)) rfl ?_
          refine wp_iload_n (pc := 34) dX12_yesGain_34 (by first | rfl | assumption | (repeat first | assumption | rfl | refine aG_n ?_ rfl rfl)) ?_
          refine wp_iald (pc := 35) dX12_yesGain_35 (by first | rfl | assumption | exact sh_house (by omega) | exact sh_wish (by omega) | exact sh_wor (by omega) | exact sh_bar (by omega) | exact sh_term (by omega) | exact sh_sheet (by omega) | exact sh_items (by omega) | exact sh_sums (by omega)) (by assumption) ?_
          refine wp_cV (pc := 36) dX12_yesGain_36 lk_12_230 rfl (by decide) rfl (by first | rfl | assumption | exact sh_house (by omega) | exact sh_wish (by omega) | exact sh_wor (by omega) | exact sh_bar (by omega) | exact sh_term (by omega) | exact sh_sheet (by omega) | exact sh_items (by omega) | exact sh_sums (by omega)) rfl rfl ?_
          rw [h16, h17, em]
          refine m_good hW ha hb e2 e1 (fun _ => aK_i ?_) (fun q => absurd c2 q)
          refine wp_if_ne (pc := 39) (tgt := 46) dX12_yesGain_39 rfl (fun _ => ?_) (fun q => absurd q (by decide))
          refine wp_aload_n (pc := 46) dX12_yesGain_46 (by first | rfl | assumption | (repeat first | assumption | rfl | refine aG_n ?_ rfl rfl)) ?_
          refine wp_aload_n (pc := 47) dX12_yesGain_47 (by first | rfl | assumption | (repeat first | assumption | rfl | refine aG_n ?_ rfl rfl)) ?_
          refine wp_getI (pc := 48) dX12_yesGain_48 fl_12_244 (by first | rfl | assumption | exact sh_house (by omega) | exact sh_wish (by omega) | exact sh_wor (by omega) | exact sh_bar (by omega) | exact sh_term (by omega) | exact sh_sheet (by omega) | exact sh_items (by omega) | exact sh_sums (by omega)) rfl ?_
          refine wp_cV (pc := 51) dX12_yesGain_51 lk_12_259 rfl (by decide) rfl (by first | rfl | assumption | exact sh_house (by omega) | exact sh_wish (by omega) | exact sh_wor (by omega) | exact sh_bar (by omega) | exact sh_term (by omega) | exact sh_sheet (by omega) | exact sh_items (by omega) | exact sh_sums (by omega)) rfl rfl ?_
          rw [h19]
          refine c_X12_whose (show m + 1 < 2 ^ 31 by omega) ?_
          rw [hd, if_pos rfl, h16]
          refine aK_i ?_
          refine wp_istore_n (pc := 54) dX12_yesGain_54 (by decide) ?_
          refine wp_aload_n (pc := 55) dX12_yesGain_55 (by first | rfl | assumption | (repeat first | assumption | rfl | refine aG_n ?_ rfl rfl)) ?_
          refine wp_iload_n (pc := 56) dX12_yesGain_56 (by first | rfl | assumption | (repeat first | assumption | rfl | refine aG_n ?_ rfl rfl)) ?_
          refine wp_aload_n (pc := 57) dX12_yesGain_57 (by first | rfl | assumption | (repeat first | assumption | rfl | refine aG_n ?_ rfl rfl)) ?_
          refine wp_getR (pc := 58) dX12_yesGain_58 fl_12_53 (by first | rfl | assumption | exact sh_house (by omega) | exact sh_wish (by omega) | exact sh_wor (by omega) | exact sh_bar (by omega) | exact sh_term (by omega) | exact sh_sheet (by omega) | exact sh_items (by omega) | exact sh_sums (by omega)) rfl ?_
          refine wp_iload_n (pc := 61) dX12_yesGain_61 (by first | rfl | assumption | (repeat first | assumption | rfl | refine aG_n ?_ rfl rfl)) ?_
          refine wp_iald (pc := 62) dX12_yesGain_62 (by first | rfl | assumption | exact sh_house (by omega) | exact sh_wish (by omega) | exact sh_wor (by omega) | exact sh_bar (by omega) | exact sh_term (by omega) | exact sh_sheet (by omega) | exact sh_items (by omega) | exact sh_sums (by omega)) (by assumption) ?_
          refine wp_cV (pc := 63) dX12_yesGain_63 lk_12_224 rfl (by decide) rfl (by first | rfl | assumption | exact sh_house (by omega) | exact sh_wish (by omega) | exact sh_wor (by omega) | exact sh_bar (by omega) | exact sh_term (by omega) | exact sh_sheet (by omega) | exact sh_items (by omega) | exact sh_sums (by omega)) rfl rfl ?_
          first | rw [em] | rw [em2] | skip
          refine m_more hW ha e2 e1 (aK_i ?_)
          refine wp_iload_n (pc := 66) dX12_yesGain_66 (by first | rfl | assumption | (repeat first | assumption | rfl | refine aG_n ?_ rfl rfl)) ?_
          refine wp_aload_n (pc := 67) dX12_yesGain_67 (by first | rfl | assumption | (repeat first | assumption | rfl | refine aG_n ?_ rfl rfl)) ?_
          refine wp_getI (pc := 68) dX12_yesGain_68 fl_12_235 (by first | rfl | assumption | exact sh_house (by omega) | exact sh_wish (by omega) | exact sh_wor (by omega) | exact sh_bar (by omega) | exact sh_term (by omega) | exact sh_sheet (by omega) | exact sh_items (by omega) | exact sh_sums (by omega)) rfl ?_
          refine wp_icmp_ne (pc := 71) (tgt := 84) dX12_yesGain_71 rfl (fun q => absurd h16.symm q) (fun _ => ?_)
          refine wp_aload_n (pc := 74) dX12_yesGain_74 (by first | rfl | assumption | (repeat first | assumption | rfl | refine aG_n ?_ rfl rfl)) ?_
          refine wp_getR (pc := 75) dX12_yesGain_75 fl_12_56 (by first | rfl | assumption | exact sh_house (by omega) | exact sh_wish (by omega) | exact sh_wor (by omega) | exact sh_bar (by omega) | exact sh_term (by omega) | exact sh_sheet (by omega) | exact sh_items (by omega) | exact sh_sums (by omega)) rfl ?_
          refine wp_iload_n (pc := 78) dX12_yesGain_78 (by first | rfl | assumption | (repeat first | assumption | rfl | refine aG_n ?_ rfl rfl)) ?_
          refine wp_iald (pc := 79) dX12_yesGain_79 (by first | rfl | assumption | exact sh_house (by omega) | exact sh_wish (by omega) | exact sh_wor (by omega) | exact sh_bar (by omega) | exact sh_term (by omega) | exact sh_sheet (by omega) | exact sh_items (by omega) | exact sh_sums (by omega)) (by assumption) ?_
          refine wp_ineg (pc := 80) dX12_yesGain_80 ?_
          refine wp_goto (pc := 81) (tgt := 90) dX12_yesGain_81 rfl ?_
          refine wp_iadd (pc := 90) dX12_yesGain_90 ?_
          refine wp_istore_n (pc := 91) dX12_yesGain_91 (by decide) ?_
          refine wp_iload_n (pc := 92) dX12_yesGain_92 (by first | rfl | assumption | (repeat first | assumption | rfl | refine aG_n ?_ rfl rfl)) ?_
          refine wp_aload_n (pc := 93) dX12_yesGain_93 (by first | rfl | assumption | (repeat first | assumption | rfl | refine aG_n ?_ rfl rfl)) ?_
          refine wp_getR (pc := 94) dX12_yesGain_94 fl_12_16 (by first | rfl | assumption | exact sh_house (by omega) | exact sh_wish (by omega) | exact sh_wor (by omega) | exact sh_bar (by omega) | exact sh_term (by omega) | exact sh_sheet (by omega) | exact sh_items (by omega) | exact sh_sums (by omega)) rfl ?_
          refine wp_iload_n (pc := 97) dX12_yesGain_97 (by first | rfl | assumption | (repeat first | assumption | rfl | refine aG_n ?_ rfl rfl)) ?_
          refine wp_iald (pc := 98) dX12_yesGain_98 (by first | rfl | assumption | exact sh_house (by omega) | exact sh_wish (by omega) | exact sh_wor (by omega) | exact sh_bar (by omega) | exact sh_term (by omega) | exact sh_sheet (by omega) | exact sh_items (by omega) | exact sh_sums (by omega)) (vp_in_nI ha (by decide)) ?_
          refine wp_icmp_ge (pc := 99) (tgt := 108) dX12_yesGain_99 rfl (fun _ => ?_) (fun q => absurd (by (try rw [em]); (try rw [em2]); rw [ca]; exact c3) q)
          refine wp_iload_n (pc := 108) dX12_yesGain_108 (by first | rfl | assumption | (repeat first | assumption | rfl | refine aG_n ?_ rfl rfl)) ?_
          refine wp_ireturn (pc := 109) dX12_yesGain_109 rfl (by first | rfl | decide | assumption) ?_
          try rw [em]
          try rw [em2]
          exact kt ⟨c1, c2, c3⟩
        · refine wp_aload_n (pc := 0) dX12_yesGain_0 (by first | rfl | assumption | (repeat first | assumption | rfl | refine aG_n ?_ rfl rfl)) ?_
          refine wp_getI (pc := 1) dX12_yesGain_1 fl_12_244 (by first | rfl | assumption | exact sh_house (by omega) | exact sh_wish (by omega) | exact sh_wor (by omega) | exact sh_bar (by omega) | exact sh_term (by omega) | exact sh_sheet (by omega) | exact sh_items (by omega) | exact sh_sums (by omega)) rfl ?_
          refine wp_iconst (pc := 4) (v := 1) dX12_yesGain_4 (by decide) ?_
          refine wp_isub (pc := 5) dX12_yesGain_5 ?_
          refine wp_istore_n (pc := 6) dX12_yesGain_6 (by decide) ?_
          refine wp_aload_n (pc := 7) dX12_yesGain_7 (by first | rfl | assumption | (repeat first | assumption | rfl | refine aG_n ?_ rfl rfl)) ?_
          refine wp_iload_n (pc := 8) dX12_yesGain_8 (by first | rfl | assumption | (repeat first | assumption | rfl | refine aG_n ?_ rfl rfl)) ?_
          refine wp_cV (pc := 9) dX12_yesGain_9 lk_12_266 rfl (by decide) rfl (by first | rfl | assumption | exact sh_house (by omega) | exact sh_wish (by omega) | exact sh_wor (by omega) | exact sh_bar (by omega) | exact sh_term (by omega) | exact sh_sheet (by omega) | exact sh_items (by omega) | exact sh_sums (by omega)) rfl rfl (c_X12_isOffer hw h19 (fun _ => aK_i ?_) (fun q => absurd c1' q))
          refine wp_if_eq (pc := 12) (tgt := 42) dX12_yesGain_12 rfl (fun q => absurd q (by decide)) (fun _ => ?_)
          refine wp_aload_n (pc := 15) dX12_yesGain_15 (by first | rfl | assumption | (repeat first | assumption | rfl | refine aG_n ?_ rfl rfl)) ?_
          refine wp_aload_n (pc := 16) dX12_yesGain_16 (by first | rfl | assumption | (repeat first | assumption | rfl | refine aG_n ?_ rfl rfl)) ?_
          refine wp_getI (pc := 17) dX12_yesGain_17 fl_12_235 (by first | rfl | assumption | exact sh_house (by omega) | exact sh_wish (by omega) | exact sh_wor (by omega) | exact sh_bar (by omega) | exact sh_term (by omega) | exact sh_sheet (by omega) | exact sh_items (by omega) | exact sh_sums (by omega)) rfl ?_
          refine wp_aload_n (pc := 20) dX12_yesGain_20 (by first | rfl | assumption | (repeat first | assumption | rfl | refine aG_n ?_ rfl rfl)) ?_
          refine wp_getI (pc := 21) dX12_yesGain_21 fl_12_238 (by first | rfl | assumption | exact sh_house (by omega) | exact sh_wish (by omega) | exact sh_wor (by omega) | exact sh_bar (by omega) | exact sh_term (by omega) | exact sh_sheet (by omega) | exact sh_items (by omega) | exact sh_sums (by omega)) rfl ?_
          refine wp_aload_n (pc := 24) dX12_yesGain_24 (by first | rfl | assumption | (repeat first | assumption | rfl | refine aG_n ?_ rfl rfl)) ?_
          refine wp_getR (pc := 25) dX12_yesGain_25 fl_12_53 (by first | rfl | assumption | exact sh_house (by omega) | exact sh_wish (by omega) | exact sh_wor (by omega) | exact sh_bar (by omega) | exact sh_term (by omega) | exact sh_sheet (by omega) | exact sh_items (by omega) | exact sh_sums (by omega)) rfl ?_
          refine wp_iload_n (pc := 28) dX12_yesGain_28 (by first | rfl | assumption | (repeat first | assumption | rfl | refine aG_n ?_ rfl rfl)) ?_
          refine wp_iald (pc := 29) dX12_yesGain_29 (by first | rfl | assumption | exact sh_house (by omega) | exact sh_wish (by omega) | exact sh_wor (by omega) | exact sh_bar (by omega) | exact sh_term (by omega) | exact sh_sheet (by omega) | exact sh_items (by omega) | exact sh_sums (by omega)) (by assumption) ?_
          refine wp_aload_n (pc := 30) dX12_yesGain_30 (by first | rfl | assumption | (repeat first | assumption | rfl | refine aG_n ?_ rfl rfl)) ?_
          refine wp_getR (pc := 31) dX12_yesGain_31 fl_12_56 (by first | rfl | assumption | exact sh_house (by omega) | exact sh_wish (by omega) | exact sh_wor (by omega) | exact sh_bar (by omega) | exact sh_term (by omega) | exact sh_sheet (by omega) | exact sh_items (by omega) | exact sh_sums (by omega)) rfl ?_
          refine wp_iload_n (pc := 34) dX12_yesGain_34 (by first | rfl | assumption | (repeat first | assumption | rfl | refine aG_n ?_ rfl rfl)) ?_
          refine wp_iald (pc := 35) dX12_yesGain_35 (by first | rfl | assumption | exact sh_house (by omega) | exact sh_wish (by omega) | exact sh_wor (by omega) | exact sh_bar (by omega) | exact sh_term (by omega) | exact sh_sheet (by omega) | exact sh_items (by omega) | exact sh_sums (by omega)) (by assumption) ?_
          refine wp_cV (pc := 36) dX12_yesGain_36 lk_12_230 rfl (by decide) rfl (by first | rfl | assumption | exact sh_house (by omega) | exact sh_wish (by omega) | exact sh_wor (by omega) | exact sh_bar (by omega) | exact sh_term (by omega) | exact sh_sheet (by omega) | exact sh_items (by omega) | exact sh_sums (by omega)) rfl rfl ?_
          rw [h16, h17, em]
          refine m_good hW ha hb e2 e1 (fun _ => aK_i ?_) (fun q => absurd c2 q)
          refine wp_if_ne (pc := 39) (tgt := 46) dX12_yesGain_39 rfl (fun _ => ?_) (fun q => absurd q (by decide))
          refine wp_aload_n (pc := 46) dX12_yesGain_46 (by first | rfl | assumption | (repeat first | assumption | rfl | refine aG_n ?_ rfl rfl)) ?_
          refine wp_aload_n (pc := 47) dX12_yesGain_47 (by first | rfl | assumption | (repeat first | assumption | rfl | refine aG_n ?_ rfl rfl)) ?_
          refine wp_getI (pc := 48) dX12_yesGain_48 fl_12_244 (by first | rfl | assumption | exact sh_house (by omega) | exact sh_wish (by omega) | exact sh_wor (by omega) | exact sh_bar (by omega) | exact sh_term (by omega) | exact sh_sheet (by omega) | exact sh_items (by omega) | exact sh_sums (by omega)) rfl ?_
          refine wp_cV (pc := 51) dX12_yesGain_51 lk_12_259 rfl (by decide) rfl (by first | rfl | assumption | exact sh_house (by omega) | exact sh_wish (by omega) | exact sh_wor (by omega) | exact sh_bar (by omega) | exact sh_term (by omega) | exact sh_sheet (by omega) | exact sh_items (by omega) | exact sh_sums (by omega)) rfl rfl ?_
          rw [h19]
          refine c_X12_whose (show m + 1 < 2 ^ 31 by omega) ?_
          rw [hd, if_pos rfl, h16]
          refine aK_i ?_
          refine wp_istore_n (pc := 54) dX12_yesGain_54 (by decide) ?_
          refine wp_aload_n (pc := 55) dX12_yesGain_55 (by first | rfl | assumption | (repeat first | assumption | rfl | refine aG_n ?_ rfl rfl)) ?_
          refine wp_iload_n (pc := 56) dX12_yesGain_56 (by first | rfl | assumption | (repeat first | assumption | rfl | refine aG_n ?_ rfl rfl)) ?_
          refine wp_aload_n (pc := 57) dX12_yesGain_57 (by first | rfl | assumption | (repeat first | assumption | rfl | refine aG_n ?_ rfl rfl)) ?_
          refine wp_getR (pc := 58) dX12_yesGain_58 fl_12_53 (by first | rfl | assumption | exact sh_house (by omega) | exact sh_wish (by omega) | exact sh_wor (by omega) | exact sh_bar (by omega) | exact sh_term (by omega) | exact sh_sheet (by omega) | exact sh_items (by omega) | exact sh_sums (by omega)) rfl ?_
          refine wp_iload_n (pc := 61) dX12_yesGain_61 (by first | rfl | assumption | (repeat first | assumption | rfl | refine aG_n ?_ rfl rfl)) ?_
          refine wp_iald (pc := 62) dX12_yesGain_62 (by first | rfl | assumption | exact sh_house (by omega) | exact sh_wish (by omega) | exact sh_wor (by omega) | exact sh_bar (by omega) | exact sh_term (by omega) | exact sh_sheet (by omega) | exact sh_items (by omega) | exact sh_sums (by omega)) (by assumption) ?_
          refine wp_cV (pc := 63) dX12_yesGain_63 lk_12_224 rfl (by decide) rfl (by first | rfl | assumption | exact sh_house (by omega) | exact sh_wish (by omega) | exact sh_wor (by omega) | exact sh_bar (by omega) | exact sh_term (by omega) | exact sh_sheet (by omega) | exact sh_items (by omega) | exact sh_sums (by omega)) rfl rfl ?_
          first | rw [em] | rw [em2] | skip
          refine m_more hW ha e2 e1 (aK_i ?_)
          refine wp_iload_n (pc := 66) dX12_yesGain_66 (by first | rfl | assumption | (repeat first | assumption | rfl | refine aG_n ?_ rfl rfl)) ?_
          refine wp_aload_n (pc := 67) dX12_yesGain_67 (by first | rfl | assumption | (repeat first | assumption | rfl | refine aG_n ?_ rfl rfl)) ?_
          refine wp_getI (pc := 68) dX12_yesGain_68 fl_12_235 (by first | rfl | assumption | exact sh_house (by omega) | exact sh_wish (by omega) | exact sh_wor (by omega) | exact sh_bar (by omega) | exact sh_term (by omega) | exact sh_sheet (by omega) | exact sh_items (by omega) | exact sh_sums (by omega)) rfl ?_
          refine wp_icmp_ne (pc := 71) (tgt := 84) dX12_yesGain_71 rfl (fun q => absurd h16.symm q) (fun _ => ?_)
          refine wp_aload_n (pc := 74) dX12_yesGain_74 (by first | rfl | assumption | (repeat first | assumption | rfl | refine aG_n ?_ rfl rfl)) ?_
          refine wp_getR (pc := 75) dX12_yesGain_75 fl_12_56 (by first | rfl | assumption | exact sh_house (by omega) | exact sh_wish (by omega) | exact sh_wor (by omega) | exact sh_bar (by omega) | exact sh_term (by omega) | exact sh_sheet (by omega) | exact sh_items (by omega) | exact sh_sums (by omega)) rfl ?_
          refine wp_iload_n (pc := 78) dX12_yesGain_78 (by first | rfl | assumption | (repeat first | assumption | rfl | refine aG_n ?_ rfl rfl)) ?_
          refine wp_iald (pc := 79) dX12_yesGain_79 (by first | rfl | assumption | exact sh_house (by omega) | exact sh_wish (by omega) | exact sh_wor (by omega) | exact sh_bar (by omega) | exact sh_term (by omega) | exact sh_sheet (by omega) | exact sh_items (by omega) | exact sh_sums (by omega)) (by assumption) ?_
          refine wp_ineg (pc := 80) dX12_yesGain_80 ?_
          refine wp_goto (pc := 81) (tgt := 90) dX12_yesGain_81 rfl ?_
          refine wp_iadd (pc := 90) dX12_yesGain_90 ?_
          refine wp_istore_n (pc := 91) dX12_yesGain_91 (by decide) ?_
          refine wp_iload_n (pc := 92) dX12_yesGain_92 (by first | rfl | assumption | (repeat first | assumption | rfl | refine aG_n ?_ rfl rfl)) ?_
          refine wp_aload_n (pc := 93) dX12_yesGain_93 (by first | rfl | assumption | (repeat first | assumption | rfl | refine aG_n ?_ rfl rfl)) ?_
          refine wp_getR (pc := 94) dX12_yesGain_94 fl_12_16 (by first | rfl | assumption | exact sh_house (by omega) | exact sh_wish (by omega) | exact sh_wor (by omega) | exact sh_bar (by omega) | exact sh_term (by omega) | exact sh_sheet (by omega) | exact sh_items (by omega) | exact sh_sums (by omega)) rfl ?_
          refine wp_iload_n (pc := 97) dX12_yesGain_97 (by first | rfl | assumption | (repeat first | assumption | rfl | refine aG_n ?_ rfl rfl)) ?_
          refine wp_iald (pc := 98) dX12_yesGain_98 (by first | rfl | assumption | exact sh_house (by omega) | exact sh_wish (by omega) | exact sh_wor (by omega) | exact sh_bar (by omega) | exact sh_term (by omega) | exact sh_sheet (by omega) | exact sh_items (by omega) | exact sh_sums (by omega)) (vp_in_nI ha (by decide)) ?_
          refine wp_icmp_ge (pc := 99) (tgt := 108) dX12_yesGain_99 rfl (fun q => absurd q (by (try rw [em]); (try rw [em2]); rw [ca]; exact c3)) (fun _ => ?_)
          refine wp_sipush (pc := 102) (v := -10002) dX12_yesGain_102 (by decide) ?_
          refine wp_goto (pc := 105) (tgt := 109) dX12_yesGain_105 rfl ?_
          refine wp_ireturn (pc := 109) dX12_yesGain_109 rfl (by first | rfl | decide | assumption) ?_
          exact kf (fun z => c3 z.2.2)
      · rw [hd] at kt kf
        have eg : gnp μ.1 (two (th μ.1 a) (th μ.1 b)) (two (56 + 4 * a) (56 + 4 * b)) 1 (wu μ.1 m) (μ.1 102 m) = μ.1 (57 + 4 * b) (th μ.1 b ^^^ wu μ.1 m) - μ.1 (57 + 4 * b) (th μ.1 b) + μ.1 102 m := by
          unfold gnp; rw [if_neg (by decide), gnd_1]
        rw [eg] at kt kf
        have cb : (nI b).toNatClampNeg = b := nI_clamp (by omega)
        have nab : ¬ nI b = μ.1 86 16 := by rw [h16, nI_eq (by omega) (by omega)]; exact fun z => hab z.symm
        by_cases c3 : μ.1 89 b ≤ μ.1 (57 + 4 * b) (th μ.1 b ^^^ wu μ.1 m) - μ.1 (57 + 4 * b) (th μ.1 b) + μ.1 102 m
        · refine wp_aload_n (pc := 0) dX12_yesGain_0 (by first | rfl | assumption | (repeat first | assumption | rfl | refine aG_n ?_ rfl rfl)) ?_
          refine wp_getI (pc := 1) dX12_yesGain_1 fl_12_244 (by first | rfl | assumption | exact sh_house (by omega) | exact sh_wish (by omega) | exact sh_wor (by omega) | exact sh_bar (by omega) | exact sh_term (by omega) | exact sh_sheet (by omega) | exact sh_items (by omega) | exact sh_sums (by omega)) rfl ?_
          refine wp_iconst (pc := 4) (v := 1) dX12_yesGain_4 (by decide) ?_
          refine wp_isub (pc := 5) dX12_yesGain_5 ?_
          refine wp_istore_n (pc := 6) dX12_yesGain_6 (by decide) ?_
          refine wp_aload_n (pc := 7) dX12_yesGain_7 (by first | rfl | assumption | (repeat first | assumption | rfl | refine aG_n ?_ rfl rfl)) ?_
          refine wp_iload_n (pc := 8) dX12_yesGain_8 (by first | rfl | assumption | (repeat first | assumption | rfl | refine aG_n ?_ rfl rfl)) ?_
          refine wp_cV (pc := 9) dX12_yesGain_9 lk_12_266 rfl (by decide) rfl (by first | rfl | assumption | exact sh_house (by omega) | exact sh_wish (by omega) | exact sh_wor (by omega) | exact sh_bar (by omega) | exact sh_term (by omega) | exact sh_sheet (by omega) | exact sh_items (by omega) | exact sh_sums (by omega)) rfl rfl (c_X12_isOffer hw h19 (fun _ => aK_i ?_) (fun q => absurd c1' q))
          refine wp_if_eq (pc := 12) (tgt := 42) dX12_yesGain_12 rfl (fun q => absurd q (by decide)) (fun _ => ?_)
          refine wp_aload_n (pc := 15) dX12_yesGain_15 (by first | rfl | assumption | (repeat first | assumption | rfl | refine aG_n ?_ rfl rfl)) ?_
          refine wp_aload_n (pc := 16) dX12_yesGain_16 (by first | rfl | assumption | (repeat first | assumption | rfl | refine aG_n ?_ rfl rfl)) ?_
          refine wp_getI (pc := 17) dX12_yesGain_17 fl_12_235 (by first | rfl | assumption | exact sh_house (by omega) | exact sh_wish (by omega) | exact sh_wor (by omega) | exact sh_bar (by omega) | exact sh_term (by omega) | exact sh_sheet (by omega) | exact sh_items (by omega) | exact sh_sums (by omega)) rfl ?_
          refine wp_aload_n (pc := 20) dX12_yesGain_20 (by first | rfl | assumption | (repeat first | assumption | rfl | refine aG_n ?_ rfl rfl)) ?_
          refine wp_getI (pc := 21) dX12_yesGain_21 fl_12_238 (by first | rfl | assumption | exact sh_house (by omega) | exact sh_wish (by omega) | exact sh_wor (by omega) | exact sh_bar (by omega) | exact sh_term (by omega) | exact sh_sheet (by omega) | exact sh_items (by omega) | exact sh_sums (by omega)) rfl ?_
          refine wp_aload_n (pc := 24) dX12_yesGain_24 (by first | rfl | assumption | (repeat first | assumption | rfl | refine aG_n ?_ rfl rfl)) ?_
          refine wp_getR (pc := 25) dX12_yesGain_25 fl_12_53 (by first | rfl | assumption | exact sh_house (by omega) | exact sh_wish (by omega) | exact sh_wor (by omega) | exact sh_bar (by omega) | exact sh_term (by omega) | exact sh_sheet (by omega) | exact sh_items (by omega) | exact sh_sums (by omega)) rfl ?_
          refine wp_iload_n (pc := 28) dX12_yesGain_28 (by first | rfl | assumption | (repeat first | assumption | rfl | refine aG_n ?_ rfl rfl)) ?_
          refine wp_iald (pc := 29) dX12_yesGain_29 (by first | rfl | assumption | exact sh_house (by omega) | exact sh_wish (by omega) | exact sh_wor (by omega) | exact sh_bar (by omega) | exact sh_term (by omega) | exact sh_sheet (by omega) | exact sh_items (by omega) | exact sh_sums (by omega)) (by assumption) ?_
          refine wp_aload_n (pc := 30) dX12_yesGain_30 (by first | rfl | assumption | (repeat first | assumption | rfl | refine aG_n ?_ rfl rfl)) ?_
          refine wp_getR (pc := 31) dX12_yesGain_31 fl_12_56 (by first | rfl | assumption | exact sh_house (by omega) | exact sh_wish (by omega) | exact sh_wor (by omega) | exact sh_bar (by omega) | exact sh_term (by omega) | exact sh_sheet (by omega) | exact sh_items (by omega) | exact sh_sums (by omega)) rfl ?_
          refine wp_iload_n (pc := 34) dX12_yesGain_34 (by first | rfl | assumption | (repeat first | assumption | rfl | refine aG_n ?_ rfl rfl)) ?_
          refine wp_iald (pc := 35) dX12_yesGain_35 (by first | rfl | assumption | exact sh_house (by omega) | exact sh_wish (by omega) | exact sh_wor (by omega) | exact sh_bar (by omega) | exact sh_term (by omega) | exact sh_sheet (by omega) | exact sh_items (by omega) | exact sh_sums (by omega)) (by assumption) ?_
          refine wp_cV (pc := 36) dX12_yesGain_36 lk_12_230 rfl (by decide) rfl (by first | rfl | assumption | exact sh_house (by omega) | exact sh_wish (by omega) | exact sh_wor (by omega) | exact sh_bar (by omega) | exact sh_term (by omega) | exact sh_sheet (by omega) | exact sh_items (by omega) | exact sh_sums (by omega)) rfl rfl ?_
          rw [h16, h17, em]
          refine m_good hW ha hb e2 e1 (fun _ => aK_i ?_) (fun q => absurd c2 q)
          refine wp_if_ne (pc := 39) (tgt := 46) dX12_yesGain_39 rfl (fun _ => ?_) (fun q => absurd q (by decide))
          refine wp_aload_n (pc := 46) dX12_yesGain_46 (by first | rfl | assumption | (repeat first | assumption | rfl | refine aG_n ?_ rfl rfl)) ?_
          refine wp_aload_n (pc := 47) dX12_yesGain_47 (by first | rfl | assumption | (repeat first | assumption | rfl | refine aG_n ?_ rfl rfl)) ?_
          refine wp_getI (pc := 48) dX12_yesGain_48 fl_12_244 (by first | rfl | assumption | exact sh_house (by omega) | exact sh_wish (by omega) | exact sh_wor (by omega) | exact sh_bar (by omega) | exact sh_term (by omega) | exact sh_sheet (by omega) | exact sh_items (by omega) | exact sh_sums (by omega)) rfl ?_
          refine wp_cV (pc := 51) dX12_yesGain_51 lk_12_259 rfl (by decide) rfl (by first | rfl | assumption | exact sh_house (by omega) | exact sh_wish (by omega) | exact sh_wor (by omega) | exact sh_bar (by omega) | exact sh_term (by omega) | exact sh_sheet (by omega) | exact sh_items (by omega) | exact sh_sums (by omega)) rfl rfl ?_
          rw [h19]
          refine c_X12_whose (show m + 1 < 2 ^ 31 by omega) ?_
          rw [hd, if_neg (by decide), h17]
          refine aK_i ?_
          refine wp_istore_n (pc := 54) dX12_yesGain_54 (by decide) ?_
          refine wp_aload_n (pc := 55) dX12_yesGain_55 (by first | rfl | assumption | (repeat first | assumption | rfl | refine aG_n ?_ rfl rfl)) ?_
          refine wp_iload_n (pc := 56) dX12_yesGain_56 (by first | rfl | assumption | (repeat first | assumption | rfl | refine aG_n ?_ rfl rfl)) ?_
          refine wp_aload_n (pc := 57) dX12_yesGain_57 (by first | rfl | assumption | (repeat first | assumption | rfl | refine aG_n ?_ rfl rfl)) ?_
          refine wp_getR (pc := 58) dX12_yesGain_58 fl_12_53 (by first | rfl | assumption | exact sh_house (by omega) | exact sh_wish (by omega) | exact sh_wor (by omega) | exact sh_bar (by omega) | exact sh_term (by omega) | exact sh_sheet (by omega) | exact sh_items (by omega) | exact sh_sums (by omega)) rfl ?_
          refine wp_iload_n (pc := 61) dX12_yesGain_61 (by first | rfl | assumption | (repeat first | assumption | rfl | refine aG_n ?_ rfl rfl)) ?_
          refine wp_iald (pc := 62) dX12_yesGain_62 (by first | rfl | assumption | exact sh_house (by omega) | exact sh_wish (by omega) | exact sh_wor (by omega) | exact sh_bar (by omega) | exact sh_term (by omega) | exact sh_sheet (by omega) | exact sh_items (by omega) | exact sh_sums (by omega)) (by assumption) ?_
          refine wp_cV (pc := 63) dX12_yesGain_63 lk_12_224 rfl (by decide) rfl (by first | rfl | assumption | exact sh_house (by omega) | exact sh_wish (by omega) | exact sh_wor (by omega) | exact sh_bar (by omega) | exact sh_term (by omega) | exact sh_sheet (by omega) | exact sh_items (by omega) | exact sh_sums (by omega)) rfl rfl ?_
          first | rw [em] | rw [em2] | skip
          refine m_more hW hb e2 e1 (aK_i ?_)
          refine wp_iload_n (pc := 66) dX12_yesGain_66 (by first | rfl | assumption | (repeat first | assumption | rfl | refine aG_n ?_ rfl rfl)) ?_
          refine wp_aload_n (pc := 67) dX12_yesGain_67 (by first | rfl | assumption | (repeat first | assumption | rfl | refine aG_n ?_ rfl rfl)) ?_
          refine wp_getI (pc := 68) dX12_yesGain_68 fl_12_235 (by first | rfl | assumption | exact sh_house (by omega) | exact sh_wish (by omega) | exact sh_wor (by omega) | exact sh_bar (by omega) | exact sh_term (by omega) | exact sh_sheet (by omega) | exact sh_items (by omega) | exact sh_sums (by omega)) rfl ?_
          refine wp_icmp_ne (pc := 71) (tgt := 84) dX12_yesGain_71 rfl (fun _ => ?_) (fun q => absurd q nab)
          refine wp_aload_n (pc := 84) dX12_yesGain_84 (by first | rfl | assumption | (repeat first | assumption | rfl | refine aG_n ?_ rfl rfl)) ?_
          refine wp_getR (pc := 85) dX12_yesGain_85 fl_12_56 (by first | rfl | assumption | exact sh_house (by omega) | exact sh_wish (by omega) | exact sh_wor (by omega) | exact sh_bar (by omega) | exact sh_term (by omega) | exact sh_sheet (by omega) | exact sh_items (by omega) | exact sh_sums (by omega)) rfl ?_
          refine wp_iload_n (pc := 88) dX12_yesGain_88 (by first | rfl | assumption | (repeat first | assumption | rfl | refine aG_n ?_ rfl rfl)) ?_
          refine wp_iald (pc := 89) dX12_yesGain_89 (by first | rfl | assumption | exact sh_house (by omega) | exact sh_wish (by omega) | exact sh_wor (by omega) | exact sh_bar (by omega) | exact sh_term (by omega) | exact sh_sheet (by omega) | exact sh_items (by omega) | exact sh_sums (by omega)) (by assumption) ?_
          refine wp_iadd (pc := 90) dX12_yesGain_90 ?_
          refine wp_istore_n (pc := 91) dX12_yesGain_91 (by decide) ?_
          refine wp_iload_n (pc := 92) dX12_yesGain_92 (by first | rfl | assumption | (repeat first | assumption | rfl | refine aG_n ?_ rfl rfl)) ?_
          refine wp_aload_n (pc := 93) dX12_yesGain_93 (by first | rfl | assumption | (repeat first | assumption | rfl | refine aG_n ?_ rfl rfl)) ?_
          refine wp_getR (pc := 94) dX12_yesGain_94 fl_12_16 (by first | rfl | assumption | exact sh_house (by omega) | exact sh_wish (by omega) | exact sh_wor (by omega) | exact sh_bar (by omega) | exact sh_term (by omega) | exact sh_sheet (by omega) | exact sh_items (by omega) | exact sh_sums (by omega)) rfl ?_
          refine wp_iload_n (pc := 97) dX12_yesGain_97 (by first | rfl | assumption | (repeat first | assumption | rfl | refine aG_n ?_ rfl rfl)) ?_
          refine wp_iald (pc := 98) dX12_yesGain_98 (by first | rfl | assumption | exact sh_house (by omega) | exact sh_wish (by omega) | exact sh_wor (by omega) | exact sh_bar (by omega) | exact sh_term (by omega) | exact sh_sheet (by omega) | exact sh_items (by omega) | exact sh_sums (by omega)) (vp_in_nI hb (by decide)) ?_
          refine wp_icmp_ge (pc := 99) (tgt := 108) dX12_yesGain_99 rfl (fun _ => ?_) (fun q => absurd (by (try rw [em]); (try rw [em2]); rw [cb]; exact c3) q)
          refine wp_iload_n (pc := 108) dX12_yesGain_108 (by first | rfl | assumption | (repeat first | assumption | rfl | refine aG_n ?_ rfl rfl)) ?_
          refine wp_ireturn (pc := 109) dX12_yesGain_109 rfl (by first | rfl | decide | assumption) ?_
          try rw [em]
          try rw [em2]
          exact kt ⟨c1, c2, c3⟩
        · refine wp_aload_n (pc := 0) dX12_yesGain_0 (by first | rfl | assumption | (repeat first | assumption | rfl | refine aG_n ?_ rfl rfl)) ?_
          refine wp_getI (pc := 1) dX12_yesGain_1 fl_12_244 (by first | rfl | assumption | exact sh_house (by omega) | exact sh_wish (by omega) | exact sh_wor (by omega) | exact sh_bar (by omega) | exact sh_term (by omega) | exact sh_sheet (by omega) | exact sh_items (by omega) | exact sh_sums (by omega)) rfl ?_
          refine wp_iconst (pc := 4) (v := 1) dX12_yesGain_4 (by decide) ?_
          refine wp_isub (pc := 5) dX12_yesGain_5 ?_
          refine wp_istore_n (pc := 6) dX12_yesGain_6 (by decide) ?_
          refine wp_aload_n (pc := 7) dX12_yesGain_7 (by first | rfl | assumption | (repeat first | assumption | rfl | refine aG_n ?_ rfl rfl)) ?_
          refine wp_iload_n (pc := 8) dX12_yesGain_8 (by first | rfl | assumption | (repeat first | assumption | rfl | refine aG_n ?_ rfl rfl)) ?_
          refine wp_cV (pc := 9) dX12_yesGain_9 lk_12_266 rfl (by decide) rfl (by first | rfl | assumption | exact sh_house (by omega) | exact sh_wish (by omega) | exact sh_wor (by omega) | exact sh_bar (by omega) | exact sh_term (by omega) | exact sh_sheet (by omega) | exact sh_items (by omega) | exact sh_sums (by omega)) rfl rfl (c_X12_isOffer hw h19 (fun _ => aK_i ?_) (fun q => absurd c1' q))
          refine wp_if_eq (pc := 12) (tgt := 42) dX12_yesGain_12 rfl (fun q => absurd q (by decide)) (fun _ => ?_)
          refine wp_aload_n (pc := 15) dX12_yesGain_15 (by first | rfl | assumption | (repeat first | assumption | rfl | refine aG_n ?_ rfl rfl)) ?_
          refine wp_aload_n (pc := 16) dX12_yesGain_16 (by first | rfl | assumption | (repeat first | assumption | rfl | refine aG_n ?_ rfl rfl)) ?_
          refine wp_getI (pc := 17) dX12_yesGain_17 fl_12_235 (by first | rfl | assumption | exact sh_house (by omega) | exact sh_wish (by omega) | exact sh_wor (by omega) | exact sh_bar (by omega) | exact sh_term (by omega) | exact sh_sheet (by omega) | exact sh_items (by omega) | exact sh_sums (by omega)) rfl ?_
          refine wp_aload_n (pc := 20) dX12_yesGain_20 (by first | rfl | assumption | (repeat first | assumption | rfl | refine aG_n ?_ rfl rfl)) ?_
          refine wp_getI (pc := 21) dX12_yesGain_21 fl_12_238 (by first | rfl | assumption | exact sh_house (by omega) | exact sh_wish (by omega) | exact sh_wor (by omega) | exact sh_bar (by omega) | exact sh_term (by omega) | exact sh_sheet (by omega) | exact sh_items (by omega) | exact sh_sums (by omega)) rfl ?_
          refine wp_aload_n (pc := 24) dX12_yesGain_24 (by first | rfl | assumption | (repeat first | assumption | rfl | refine aG_n ?_ rfl rfl)) ?_
          refine wp_getR (pc := 25) dX12_yesGain_25 fl_12_53 (by first | rfl | assumption | exact sh_house (by omega) | exact sh_wish (by omega) | exact sh_wor (by omega) | exact sh_bar (by omega) | exact sh_term (by omega) | exact sh_sheet (by omega) | exact sh_items (by omega) | exact sh_sums (by omega)) rfl ?_
          refine wp_iload_n (pc := 28) dX12_yesGain_28 (by first | rfl | assumption | (repeat first | assumption | rfl | refine aG_n ?_ rfl rfl)) ?_
          refine wp_iald (pc := 29) dX12_yesGain_29 (by first | rfl | assumption | exact sh_house (by omega) | exact sh_wish (by omega) | exact sh_wor (by omega) | exact sh_bar (by omega) | exact sh_term (by omega) | exact sh_sheet (by omega) | exact sh_items (by omega) | exact sh_sums (by omega)) (by assumption) ?_
          refine wp_aload_n (pc := 30) dX12_yesGain_30 (by first | rfl | assumption | (repeat first | assumption | rfl | refine aG_n ?_ rfl rfl)) ?_
          refine wp_getR (pc := 31) dX12_yesGain_31 fl_12_56 (by first | rfl | assumption | exact sh_house (by omega) | exact sh_wish (by omega) | exact sh_wor (by omega) | exact sh_bar (by omega) | exact sh_term (by omega) | exact sh_sheet (by omega) | exact sh_items (by omega) | exact sh_sums (by omega)) rfl ?_
          refine wp_iload_n (pc := 34) dX12_yesGain_34 (by first | rfl | assumption | (repeat first | assumption | rfl | refine aG_n ?_ rfl rfl)) ?_
          refine wp_iald (pc := 35) dX12_yesGain_35 (by first | rfl | assumption | exact sh_house (by omega) | exact sh_wish (by omega) | exact sh_wor (by omega) | exact sh_bar (by omega) | exact sh_term (by omega) | exact sh_sheet (by omega) | exact sh_items (by omega) | exact sh_sums (by omega)) (by assumption) ?_
          refine wp_cV (pc := 36) dX12_yesGain_36 lk_12_230 rfl (by decide) rfl (by first | rfl | assumption | exact sh_house (by omega) | exact sh_wish (by omega) | exact sh_wor (by omega) | exact sh_bar (by omega) | exact sh_term (by omega) | exact sh_sheet (by omega) | exact sh_items (by omega) | exact sh_sums (by omega)) rfl rfl ?_
          rw [h16, h17, em]
          refine m_good hW ha hb e2 e1 (fun _ => aK_i ?_) (fun q => absurd c2 q)
          refine wp_if_ne (pc := 39) (tgt := 46) dX12_yesGain_39 rfl (fun _ => ?_) (fun q => absurd q (by decide))
          refine wp_aload_n (pc := 46) dX12_yesGain_46 (by first | rfl | assumption | (repeat first | assumption | rfl | refine aG_n ?_ rfl rfl)) ?_
          refine wp_aload_n (pc := 47) dX12_yesGain_47 (by first | rfl | assumption | (repeat first | assumption | rfl | refine aG_n ?_ rfl rfl)) ?_
          refine wp_getI (pc := 48) dX12_yesGain_48 fl_12_244 (by first | rfl | assumption | exact sh_house (by omega) | exact sh_wish (by omega) | exact sh_wor (by omega) | exact sh_bar (by omega) | exact sh_term (by omega) | exact sh_sheet (by omega) | exact sh_items (by omega) | exact sh_sums (by omega)) rfl ?_
          refine wp_cV (pc := 51) dX12_yesGain_51 lk_12_259 rfl (by decide) rfl (by first | rfl | assumption | exact sh_house (by omega) | exact sh_wish (by omega) | exact sh_wor (by omega) | exact sh_bar (by omega) | exact sh_term (by omega) | exact sh_sheet (by omega) | exact sh_items (by omega) | exact sh_sums (by omega)) rfl rfl ?_
          rw [h19]
          refine c_X12_whose (show m + 1 < 2 ^ 31 by omega) ?_
          rw [hd, if_neg (by decide), h17]
          refine aK_i ?_
          refine wp_istore_n (pc := 54) dX12_yesGain_54 (by decide) ?_
          refine wp_aload_n (pc := 55) dX12_yesGain_55 (by first | rfl | assumption | (repeat first | assumption | rfl | refine aG_n ?_ rfl rfl)) ?_
          refine wp_iload_n (pc := 56) dX12_yesGain_56 (by first | rfl | assumption | (repeat first | assumption | rfl | refine aG_n ?_ rfl rfl)) ?_
          refine wp_aload_n (pc := 57) dX12_yesGain_57 (by first | rfl | assumption | (repeat first | assumption | rfl | refine aG_n ?_ rfl rfl)) ?_
          refine wp_getR (pc := 58) dX12_yesGain_58 fl_12_53 (by first | rfl | assumption | exact sh_house (by omega) | exact sh_wish (by omega) | exact sh_wor (by omega) | exact sh_bar (by omega) | exact sh_term (by omega) | exact sh_sheet (by omega) | exact sh_items (by omega) | exact sh_sums (by omega)) rfl ?_
          refine wp_iload_n (pc := 61) dX12_yesGain_61 (by first | rfl | assumption | (repeat first | assumption | rfl | refine aG_n ?_ rfl rfl)) ?_
          refine wp_iald (pc := 62) dX12_yesGain_62 (by first | rfl | assumption | exact sh_house (by omega) | exact sh_wish (by omega) | exact sh_wor (by omega) | exact sh_bar (by omega) | exact sh_term (by omega) | exact sh_sheet (by omega) | exact sh_items (by omega) | exact sh_sums (by omega)) (by assumption) ?_
          refine wp_cV (pc := 63) dX12_yesGain_63 lk_12_224 rfl (by decide) rfl (by first | rfl | assumption | exact sh_house (by omega) | exact sh_wish (by omega) | exact sh_wor (by omega) | exact sh_bar (by omega) | exact sh_term (by omega) | exact sh_sheet (by omega) | exact sh_items (by omega) | exact sh_sums (by omega)) rfl rfl ?_
          first | rw [em] | rw [em2] | skip
          refine m_more hW hb e2 e1 (aK_i ?_)
          refine wp_iload_n (pc := 66) dX12_yesGain_66 (by first | rfl | assumption | (repeat first | assumption | rfl | refine aG_n ?_ rfl rfl)) ?_
          refine wp_aload_n (pc := 67) dX12_yesGain_67 (by first | rfl | assumption | (repeat first | assumption | rfl | refine aG_n ?_ rfl rfl)) ?_
          refine wp_getI (pc := 68) dX12_yesGain_68 fl_12_235 (by first | rfl | assumption | exact sh_house (by omega) | exact sh_wish (by omega) | exact sh_wor (by omega) | exact sh_bar (by omega) | exact sh_term (by omega) | exact sh_sheet (by omega) | exact sh_items (by omega) | exact sh_sums (by omega)) rfl ?_
          refine wp_icmp_ne (pc := 71) (tgt := 84) dX12_yesGain_71 rfl (fun _ => ?_) (fun q => absurd q nab)
          refine wp_aload_n (pc := 84) dX12_yesGain_84 (by first | rfl | assumption | (repeat first | assumption | rfl | refine aG_n ?_ rfl rfl)) ?_
          refine wp_getR (pc := 85) dX12_yesGain_85 fl_12_56 (by first | rfl | assumption | exact sh_house (by omega) | exact sh_wish (by omega) | exact sh_wor (by omega) | exact sh_bar (by omega) | exact sh_term (by omega) | exact sh_sheet (by omega) | exact sh_items (by omega) | exact sh_sums (by omega)) rfl ?_
          refine wp_iload_n (pc := 88) dX12_yesGain_88 (by first | rfl | assumption | (repeat first | assumption | rfl | refine aG_n ?_ rfl rfl)) ?_
          refine wp_iald (pc := 89) dX12_yesGain_89 (by first | rfl | assumption | exact sh_house (by omega) | exact sh_wish (by omega) | exact sh_wor (by omega) | exact sh_bar (by omega) | exact sh_term (by omega) | exact sh_sheet (by omega) | exact sh_items (by omega) | exact sh_sums (by omega)) (by assumption) ?_
          refine wp_iadd (pc := 90) dX12_yesGain_90 ?_
          refine wp_istore_n (pc := 91) dX12_yesGain_91 (by decide) ?_
          refine wp_iload_n (pc := 92) dX12_yesGain_92 (by first | rfl | assumption | (repeat first | assumption | rfl | refine aG_n ?_ rfl rfl)) ?_
          refine wp_aload_n (pc := 93) dX12_yesGain_93 (by first | rfl | assumption | (repeat first | assumption | rfl | refine aG_n ?_ rfl rfl)) ?_
          refine wp_getR (pc := 94) dX12_yesGain_94 fl_12_16 (by first | rfl | assumption | exact sh_house (by omega) | exact sh_wish (by omega) | exact sh_wor (by omega) | exact sh_bar (by omega) | exact sh_term (by omega) | exact sh_sheet (by omega) | exact sh_items (by omega) | exact sh_sums (by omega)) rfl ?_
          refine wp_iload_n (pc := 97) dX12_yesGain_97 (by first | rfl | assumption | (repeat first | assumption | rfl | refine aG_n ?_ rfl rfl)) ?_
          refine wp_iald (pc := 98) dX12_yesGain_98 (by first | rfl | assumption | exact sh_house (by omega) | exact sh_wish (by omega) | exact sh_wor (by omega) | exact sh_bar (by omega) | exact sh_term (by omega) | exact sh_sheet (by omega) | exact sh_items (by omega) | exact sh_sums (by omega)) (vp_in_nI hb (by decide)) ?_
          refine wp_icmp_ge (pc := 99) (tgt := 108) dX12_yesGain_99 rfl (fun q => absurd q (by (try rw [em]); (try rw [em2]); rw [cb]; exact c3)) (fun _ => ?_)
          refine wp_sipush (pc := 102) (v := -10002) dX12_yesGain_102 (by decide) ?_
          refine wp_goto (pc := 105) (tgt := 109) dX12_yesGain_105 rfl ?_
          refine wp_ireturn (pc := 109) dX12_yesGain_109 rfl (by first | rfl | decide | assumption) ?_
          exact kf (fun z => c3 z.2.2)
    · refine wp_aload_n (pc := 0) dX12_yesGain_0 (by first | rfl | assumption | (repeat first | assumption | rfl | refine aG_n ?_ rfl rfl)) ?_
      refine wp_getI (pc := 1) dX12_yesGain_1 fl_12_244 (by first | rfl | assumption | exact sh_house (by omega) | exact sh_wish (by omega) | exact sh_wor (by omega) | exact sh_bar (by omega) | exact sh_term (by omega) | exact sh_sheet (by omega) | exact sh_items (by omega) | exact sh_sums (by omega)) rfl ?_
      refine wp_iconst (pc := 4) (v := 1) dX12_yesGain_4 (by decide) ?_
      refine wp_isub (pc := 5) dX12_yesGain_5 ?_
      refine wp_istore_n (pc := 6) dX12_yesGain_6 (by decide) ?_
      refine wp_aload_n (pc := 7) dX12_yesGain_7 (by first | rfl | assumption | (repeat first | assumption | rfl | refine aG_n ?_ rfl rfl)) ?_
      refine wp_iload_n (pc := 8) dX12_yesGain_8 (by first | rfl | assumption | (repeat first | assumption | rfl | refine aG_n ?_ rfl rfl)) ?_
      refine wp_cV (pc := 9) dX12_yesGain_9 lk_12_266 rfl (by decide) rfl (by first | rfl | assumption | exact sh_house (by omega) | exact sh_wish (by omega) | exact sh_wor (by omega) | exact sh_bar (by omega) | exact sh_term (by omega) | exact sh_sheet (by omega) | exact sh_items (by omega) | exact sh_sums (by omega)) rfl rfl (c_X12_isOffer hw h19 (fun _ => aK_i ?_) (fun q => absurd c1' q))
      refine wp_if_eq (pc := 12) (tgt := 42) dX12_yesGain_12 rfl (fun q => absurd q (by decide)) (fun _ => ?_)
      refine wp_aload_n (pc := 15) dX12_yesGain_15 (by first | rfl | assumption | (repeat first | assumption | rfl | refine aG_n ?_ rfl rfl)) ?_
      refine wp_aload_n (pc := 16) dX12_yesGain_16 (by first | rfl | assumption | (repeat first | assumption | rfl | refine aG_n ?_ rfl rfl)) ?_
      refine wp_getI (pc := 17) dX12_yesGain_17 fl_12_235 (by first | rfl | assumption | exact sh_house (by omega) | exact sh_wish (by omega) | exact sh_wor (by omega) | exact sh_bar (by omega) | exact sh_term (by omega) | exact sh_sheet (by omega) | exact sh_items (by omega) | exact sh_sums (by omega)) rfl ?_
      refine wp_aload_n (pc := 20) dX12_yesGain_20 (by first | rfl | assumption | (repeat first | assumption | rfl | refine aG_n ?_ rfl rfl)) ?_
      refine wp_getI (pc := 21) dX12_yesGain_21 fl_12_238 (by first | rfl | assumption | exact sh_house (by omega) | exact sh_wish (by omega) | exact sh_wor (by omega) | exact sh_bar (by omega) | exact sh_term (by omega) | exact sh_sheet (by omega) | exact sh_items (by omega) | exact sh_sums (by omega)) rfl ?_
      refine wp_aload_n (pc := 24) dX12_yesGain_24 (by first | rfl | assumption | (repeat first | assumption | rfl | refine aG_n ?_ rfl rfl)) ?_
      refine wp_getR (pc := 25) dX12_yesGain_25 fl_12_53 (by first | rfl | assumption | exact sh_house (by omega) | exact sh_wish (by omega) | exact sh_wor (by omega) | exact sh_bar (by omega) | exact sh_term (by omega) | exact sh_sheet (by omega) | exact sh_items (by omega) | exact sh_sums (by omega)) rfl ?_
      refine wp_iload_n (pc := 28) dX12_yesGain_28 (by first | rfl | assumption | (repeat first | assumption | rfl | refine aG_n ?_ rfl rfl)) ?_
      refine wp_iald (pc := 29) dX12_yesGain_29 (by first | rfl | assumption | exact sh_house (by omega) | exact sh_wish (by omega) | exact sh_wor (by omega) | exact sh_bar (by omega) | exact sh_term (by omega) | exact sh_sheet (by omega) | exact sh_items (by omega) | exact sh_sums (by omega)) (by assumption) ?_
      refine wp_aload_n (pc := 30) dX12_yesGain_30 (by first | rfl | assumption | (repeat first | assumption | rfl | refine aG_n ?_ rfl rfl)) ?_
      refine wp_getR (pc := 31) dX12_yesGain_31 fl_12_56 (by first | rfl | assumption | exact sh_house (by omega) | exact sh_wish (by omega) | exact sh_wor (by omega) | exact sh_bar (by omega) | exact sh_term (by omega) | exact sh_sheet (by omega) | exact sh_items (by omega) | exact sh_sums (by omega)) rfl ?_
      refine wp_iload_n (pc := 34) dX12_yesGain_34 (by first | rfl | assumption | (repeat first | assumption | rfl | refine aG_n ?_ rfl rfl)) ?_
      refine wp_iald (pc := 35) dX12_yesGain_35 (by first | rfl | assumption | exact sh_house (by omega) | exact sh_wish (by omega) | exact sh_wor (by omega) | exact sh_bar (by omega) | exact sh_term (by omega) | exact sh_sheet (by omega) | exact sh_items (by omega) | exact sh_sums (by omega)) (by assumption) ?_
      refine wp_cV (pc := 36) dX12_yesGain_36 lk_12_230 rfl (by decide) rfl (by first | rfl | assumption | exact sh_house (by omega) | exact sh_wish (by omega) | exact sh_wor (by omega) | exact sh_bar (by omega) | exact sh_term (by omega) | exact sh_sheet (by omega) | exact sh_items (by omega) | exact sh_sums (by omega)) rfl rfl ?_
      rw [h16, h17, em]
      refine m_good hW ha hb e2 e1 (fun q => absurd q c2) (fun _ => aK_i ?_)
      refine wp_if_ne (pc := 39) (tgt := 46) dX12_yesGain_39 rfl (fun q => absurd rfl q) (fun _ => ?_)
      refine wp_sipush (pc := 42) (v := -10002) dX12_yesGain_42 (by decide) ?_
      refine wp_ireturn (pc := 45) dX12_yesGain_45 rfl (by first | rfl | decide | assumption) ?_
      exact kf (fun z => c2 z.2.1)
  · refine wp_aload_n (pc := 0) dX12_yesGain_0 (by first | rfl | assumption | (repeat first | assumption | rfl | refine aG_n ?_ rfl rfl)) ?_
    refine wp_getI (pc := 1) dX12_yesGain_1 fl_12_244 (by first | rfl | assumption | exact sh_house (by omega) | exact sh_wish (by omega) | exact sh_wor (by omega) | exact sh_bar (by omega) | exact sh_term (by omega) | exact sh_sheet (by omega) | exact sh_items (by omega) | exact sh_sums (by omega)) rfl ?_
    refine wp_iconst (pc := 4) (v := 1) dX12_yesGain_4 (by decide) ?_
    refine wp_isub (pc := 5) dX12_yesGain_5 ?_
    refine wp_istore_n (pc := 6) dX12_yesGain_6 (by decide) ?_
    refine wp_aload_n (pc := 7) dX12_yesGain_7 (by first | rfl | assumption | (repeat first | assumption | rfl | refine aG_n ?_ rfl rfl)) ?_
    refine wp_iload_n (pc := 8) dX12_yesGain_8 (by first | rfl | assumption | (repeat first | assumption | rfl | refine aG_n ?_ rfl rfl)) ?_
    refine wp_cV (pc := 9) dX12_yesGain_9 lk_12_266 rfl (by decide) rfl (by first | rfl | assumption | exact sh_house (by omega) | exact sh_wish (by omega) | exact sh_wor (by omega) | exact sh_bar (by omega) | exact sh_term (by omega) | exact sh_sheet (by omega) | exact sh_items (by omega) | exact sh_sums (by omega)) rfl rfl (c_X12_isOffer hw h19 (fun q => absurd q (by rw [h19]; exact fun z => c1 ((ofW_p hw (Nat.le_refl w)).mp z))) (fun _ => aK_i ?_))
    refine wp_if_eq (pc := 12) (tgt := 42) dX12_yesGain_12 rfl (fun _ => ?_) (fun q => absurd q (by decide))
    refine wp_sipush (pc := 42) (v := -10002) dX12_yesGain_42 (by decide) ?_
    refine wp_ireturn (pc := 45) dX12_yesGain_45 rfl (by first | rfl | decide | assumption) ?_
    exact kf (fun z => c1 z.1)
end YG

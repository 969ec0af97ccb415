/-! what a MACHINE chooses from: sets by their WORTH then -/
def po (w : Nat → Int32) (r : Nat → Nat) (x : Nat) : Nat → Nat
  | 0 => 0
  | m + 1 => if w (r m) < w x then po w r x m else m + 1
def inF (w : Nat → Int32) (x : Nat) (q : (Nat → Nat) × Nat) : (Nat → Nat) × Nat := (fun j => if j < po w q.1 x q.2 then q.1 j else if j = po w q.1 x q.2 then x else q.1 (j - 1), q.2 + 1)
def rkF (ok : Nat → Bool) (w : Nat → Int32) : Nat → (Nat → Nat) × Nat
  | 0 => (fun _ => 0, 0)
  | s + 1 => if ok s = true then inF w s (rkF ok w s) else rkF ok w s
theorem po_le (w : Nat → Int32) (r : Nat → Nat) (x : Nat) : ∀ m, po w r x m ≤ m
  | 0 => Nat.le_refl _
  | m + 1 => by
    unfold po
    split
    · have := po_le w r x m; omega
    · omega
theorem rkF_p (ok : Nat → Bool) (w : Nat → Int32) : ∀ s, (rkF ok w s).2 ≤ s ∧ ∀ j, j < (rkF ok w s).2 → (rkF ok w s).1 j < s
  | 0 => ⟨Nat.le_refl _, fun j hj => absurd hj (by simp [rkF])⟩
  | s + 1 => by
    obtain ⟨h1, h2⟩ := rkF_p ok w s
    unfold rkF
    split
    · refine ⟨by show (rkF ok w s).2 + 1 ≤ s + 1; omega, fun j hj => ?_⟩
      have hp := po_le w (rkF ok w s).1 s (rkF ok w s).2
      have hj' : j < (rkF ok w s).2 + 1 := hj
      show (if j < po w (rkF ok w s).1 s (rkF ok w s).2 then (rkF ok w s).1 j else if j = po w (rkF ok w s).1 s (rkF ok w s).2 then s else (rkF ok w s).1 (j - 1)) < s + 1
      split
      · have := h2 j (by omega); omega
      · split
        · omega
        · have := h2 (j - 1) (by omega); omega
    · exact ⟨by omega, fun j hj => by have := h2 j hj; omega⟩
theorem po_c {w w' : Nat → Int32} {r : Nat → Nat} {x : Nat} (hx : w' x = w x) : ∀ m, (∀ j, j < m → w' (r j) = w (r j)) → po w' r x m = po w r x m
  | 0, _ => rfl
  | m + 1, h => by unfold po; rw [h m (by omega), hx, po_c hx m (fun j hj => h j (by omega))]
theorem rkF_c {ok ok' : Nat → Bool} {w w' : Nat → Int32} : ∀ s, (∀ x, x < s → ok' x = ok x ∧ w' x = w x) → rkF ok' w' s = rkF ok w s
  | 0, _ => rfl
  | s + 1, h => by
    have ih := rkF_c s (fun x hx => h x (by omega))
    have hp := (rkF_p ok w s).2
    unfold rkF
    rw [ih, (h s (by omega)).1]
    unfold inF
    rw [po_c (w := w) (w' := w') (h s (by omega)).2 _ (fun j hj => (h _ (Nat.lt_succ_of_lt (hp j hj))).2)]
def off2 (μ μ' : Mm) : Prop := (∀ c, c ≠ 29 → c ≠ 30 → μ'.1 c = μ.1 c) ∧ μ'.2 = μ.2
def offM (μ μ' : Mm) : Prop := (∀ c j, ¬ (c = 103 ∨ c = 104 ∨ (c = 86 ∧ j = 29)) → μ'.1 c j = μ.1 c j) ∧ μ'.2 = μ.2
abbrev PrN (P : Nat) (wv : Nat → Nat) : Prop := 31 ≤ P ∧ ∀ d, d < 2 → (wv d + 2 < 29 ∨ 30 < wv d)
theorem Pr_2 {μ μ' : Mm} {P : Nat} {t wv : Nat → Nat} (h : Pr μ P t wv) (hN : PrN P wv) (ho : off2 μ μ') : Pr μ' P t wv := Pr_s h (ho.1 P (by have := hN.1; omega) (by have := hN.1; omega)) (by rw [ho.2]) (fun d hd => ho.1 _ (by have := hN.2 d hd; omega) (by have := hN.2 d hd; omega))
section RANK
variable {X : aX} {μ : Mm} {Q : Option Value → Mm → Prop} {P d x : Nat} {t wv : Nat → Nat}
def wC (M : MM) (t wv : Nat → Nat) (d : Nat) : Nat → Int32 := fun s => M (wv d + 1) (t d ^^^ s)
def okC (M : MM) (t wv : Nat → Nat) (d : Nat) : Nat → Bool := fun s => decide (nI s &&& ((nI (t 0) ||| nI (t 1)) ^^^ (-1)) = 0 ∧ M (wv d + 2) (t d ^^^ s) = 0)
theorem l_ins {q : (Nat → Nat) × Nat} (hPr : Pr μ P t wv) (hN : PrN P wv) (hd : d < 2) (hx : x < 64) (hn : q.2 < 64) (hq : ∀ j, j < q.2 → q.1 j < 64) (k : ∀ μ', off2 μ μ' → μ'.1 29 4 = nI (q.2 + 1) → (∀ j, j < q.2 + 1 → μ'.1 30 j = nI ((inF (wC μ.1 t wv d) x q).1 j)) → Q none μ') : ∀ (at' : Nat), at' ≤ q.2 → po (wC μ.1 t wv d) q.1 x q.2 = po (wC μ.1 t wv d) q.1 x at' → ∀ μ', off2 μ μ' → μ'.1 29 4 = nI q.2 → (∀ j, j < at' → μ'.1 30 j = nI (q.1 j)) → (∀ j, at' < j → j ≤ q.2 → μ'.1 30 j = nI (q.1 (j - 1))) → ∀ L : aL, aL_get L 0 = some (.ref 29) → aL_get L 1 = some (.ref P) → aL_get L 2 = some (.int (nI d)) → aL_get L 3 = some (.int (nI x)) → aL_get L 4 = some (.int (wC μ.1 t wv d x)) → aL_get L 5 = some (.int (nI at')) → WP X mX3_insert 24 L [] μ' Q := by
  -- the end: the set is put at p
  have fin : ∀ p, p ≤ q.2 → po (wC μ.1 t wv d) q.1 x q.2 = p → ∀ μ' : Mm, off2 μ μ' → μ'.1 29 4 = nI q.2 → (∀ j, j < p → μ'.1 30 j = nI (q.1 j)) → (∀ j, p < j → j ≤ q.2 → μ'.1 30 j = nI (q.1 (j - 1))) → ∀ L : aL, aL_get L 0 = some (.ref 29) → aL_get L 3 = some (.int (nI x)) → aL_get L 5 = some (.int (nI p)) → WP X mX3_insert 70 L [] μ' Q := by
    intro p hp hpo μ' ho h29 hlo hhi L g0 g3 g5
    have cp : (nI p).toNatClampNeg = p := nI_clamp (by omega)
    refine wp_aload_n (pc := 70) dX3_insert_70 (by first | rfl | assumption | (repeat first | assumption | rfl | refine aG_n ?_ rfl rfl)) ?_
    refine wp_getR (pc := 71) dX3_insert_71 fl_3_9 (by first | rfl | assumption | exact sh_house (by omega) | exact sh_wish (by omega) | exact sh_wor (by omega) | exact sh_bar (by omega) | exact sh_term (by omega) | exact sh_sheet (by omega) | exact sh_items (by omega) | exact sh_sums (by omega)) rfl ?_
    refine wp_iload (pc := 74) dX3_insert_74 (by first | rfl | assumption | (repeat first | assumption | rfl | refine aG_n ?_ rfl rfl)) ?_
    refine wp_iload_n (pc := 76) dX3_insert_76 (by first | rfl | assumption | (repeat first | assumption | rfl | refine aG_n ?_ rfl rfl)) ?_
    refine wp_iast (pc := 77) dX3_insert_77 (by first | rfl | assumption | exact sh_house (by omega) | exact sh_wish (by omega) | exact sh_wor (by omega) | exact sh_bar (by omega) | exact sh_term (by omega) | exact sh_sheet (by omega) | exact sh_items (by omega) | exact sh_sums (by omega)) (vp_in_nI (by omega) (by decide)) ?_
    refine wp_aload_n (pc := 78) dX3_insert_78 (by first | rfl | assumption | (repeat first | assumption | rfl | refine aG_n ?_ rfl rfl)) ?_
    refine wp_dupr (pc := 79) dX3_insert_79 ?_
    refine wp_getI (pc := 80) dX3_insert_80 fl_3_15 (by first | rfl | assumption | exact sh_house (by omega) | exact sh_wish (by omega) | exact sh_wor (by omega) | exact sh_bar (by omega) | exact sh_term (by omega) | exact sh_sheet (by omega) | exact sh_items (by omega) | exact sh_sums (by omega)) rfl ?_
    refine wp_iconst (pc := 83) (v := 1) dX3_insert_83 (by decide) ?_
    refine wp_iadd (pc := 84) dX3_insert_84 ?_
    refine wp_putI (pc := 85) dX3_insert_85 fl_3_15 (by first | rfl | assumption | exact sh_house (by omega) | exact sh_wish (by omega) | exact sh_wor (by omega) | exact sh_bar (by omega) | exact sh_term (by omega) | exact sh_sheet (by omega) | exact sh_items (by omega) | exact sh_sums (by omega)) rfl rfl rfl ?_
    refine wp_vreturn (pc := 88) dX3_insert_88 rfl ?_
    skip
    rw [cp]
    refine k _ ⟨fun c h1 h2 => ?_, ho.2⟩ ?_ (fun j hj => ?_)
    · dsimp only; rw [up2_ne h1, up2_ne h2]; exact ho.1 c h1 h2
    · dsimp only; rw [up2_at, up2_ne (by omega), h29, nI_1]
    · dsimp only
      rw [up2_ne (by omega)]
      unfold inF
      dsimp only
      rw [hpo]
      by_cases e1 : j = p
      · subst e1
        rw [up2_at, if_neg (by omega), if_pos rfl]
      · rw [up2_p (by omega)]
        by_cases e2 : j < p
        · rw [if_pos e2]; exact hlo j e2
        · rw [if_neg e2, if_neg e1]; exact hhi j (by omega) (by omega)
  intro at'
  induction at' with
  | zero =>
    intro ha hpo μ' ho h29 hlo hhi L g0 g1 g2 g3 g4 g5
    refine wp_iload (pc := 24) dX3_insert_24 (by first | rfl | assumption | (repeat first | assumption | rfl | refine aG_n ?_ rfl rfl)) ?_
    refine wp_if_le (pc := 26) (tgt := 70) dX3_insert_26 rfl (fun _ => ?_) (fun q => absurd (by decide) q)
    exact fin 0 ha hpo _ ho h29 hlo hhi _ (by first | rfl | assumption | (repeat first | assumption | rfl | refine aG_n ?_ rfl rfl)) (by first | rfl | assumption | (repeat first | assumption | rfl | refine aG_n ?_ rfl rfl)) (by first | rfl | assumption | (repeat first | assumption | rfl | refine aG_n ?_ rfl rfl))
  | succ m ih =>
    intro ha hpo μ' ho h29 hlo hhi L g0 g1 g2 g3 g4 g5
    have cm : (nI m).toNatClampNeg = m := nI_clamp (by omega)
    have cm1 : (nI (m + 1)).toNatClampNeg = m + 1 := nI_clamp (by omega)
    have e30 := hlo m (by omega)
    have hw : wv d + 1 ≠ 29 ∧ wv d + 1 ≠ 30 := by have := hN.2 d hd; omega
    have ew : μ'.1 (wv d + 1) (t d ^^^ q.1 m) = wC μ.1 t wv d (q.1 m) := by rw [ho.1 _ hw.1 hw.2]; rfl
    have hPr' := Pr_2 hPr hN ho
    have hP := hPr.1
    by_cases c : wC μ.1 t wv d (q.1 m) < wC μ.1 t wv d x
    · have hpo' : po (wC μ.1 t wv d) q.1 x q.2 = po (wC μ.1 t wv d) q.1 x m := by rw [hpo]; exact if_pos c
      refine wp_iload (pc := 24) dX3_insert_24 (by first | rfl | assumption | (repeat first | assumption | rfl | refine aG_n ?_ rfl rfl)) ?_
      refine wp_if_le (pc := 26) (tgt := 70) dX3_insert_26 rfl (fun q => absurd q (nI_nle (by omega) (by omega))) (fun _ => ?_)
      refine wp_aload_n (pc := 29) dX3_insert_29 (by first | rfl | assumption | (repeat first | assumption | rfl | refine aG_n ?_ rfl rfl)) ?_
      refine wp_iload_n (pc := 30) dX3_insert_30 (by first | rfl | assumption | (repeat first | assumption | rfl | refine aG_n ?_ rfl rfl)) ?_
      refine wp_aload_n (pc := 31) dX3_insert_31 (by first | rfl | assumption | (repeat first | assumption | rfl | refine aG_n ?_ rfl rfl)) ?_
      refine wp_getR (pc := 32) dX3_insert_32 fl_3_9 (by first | rfl | assumption | exact sh_house (by omega) | exact sh_wish (by omega) | exact sh_wor (by omega) | exact sh_bar (by omega) | exact sh_term (by omega) | exact sh_sheet (by omega) | exact sh_items (by omega) | exact sh_sums (by omega)) rfl ?_
      refine wp_iload (pc := 35) dX3_insert_35 (by first | rfl | assumption | (repeat first | assumption | rfl | refine aG_n ?_ rfl rfl)) ?_
      refine wp_iconst (pc := 37) (v := 1) dX3_insert_37 (by decide) ?_
      refine wp_isub (pc := 38) dX3_insert_38 ?_
      refine wp_iald (pc := 39) dX3_insert_39 (by first | rfl | assumption | exact sh_house (by omega) | exact sh_wish (by omega) | exact sh_wor (by omega) | exact sh_bar (by omega) | exact sh_term (by omega) | exact sh_sheet (by omega) | exact sh_items (by omega) | exact sh_sums (by omega)) (by rw [nI_pred]; exact vp_in_nI (by omega) (by decide)) ?_
      refine wp_cV (pc := 40) dX3_insert_40 lk_3_33 rfl (by decide) rfl (by first | rfl | assumption | exact sh_house (by omega) | exact sh_wish (by omega) | exact sh_wor (by omega) | exact sh_bar (by omega) | exact sh_term (by omega) | exact sh_sheet (by omega) | exact sh_items (by omega) | exact sh_sums (by omega)) rfl rfl ?_
      rw [nI_pred, cm, e30]
      refine c_X4_worthThen hPr' hd (hq m (by omega)) ?_
      rw [ew]
      refine aK_i ?_
      refine wp_iload (pc := 43) dX3_insert_43 (by first | rfl | assumption | (repeat first | assumption | rfl | refine aG_n ?_ rfl rfl)) ?_
      refine wp_icmp_ge (pc := 45) (tgt := 70) dX3_insert_45 rfl (fun q => absurd q (fun z => i_nle c z)) (fun _ => ?_)
      refine wp_aload_n (pc := 48) dX3_insert_48 (by first | rfl | assumption | (repeat first | assumption | rfl | refine aG_n ?_ rfl rfl)) ?_
      refine wp_getR (pc := 49) dX3_insert_49 fl_3_9 (by first | rfl | assumption | exact sh_house (by omega) | exact sh_wish (by omega) | exact sh_wor (by omega) | exact sh_bar (by omega) | exact sh_term (by omega) | exact sh_sheet (by omega) | exact sh_items (by omega) | exact sh_sums (by omega)) rfl ?_
      refine wp_iload (pc := 52) dX3_insert_52 (by first | rfl | assumption | (repeat first | assumption | rfl | refine aG_n ?_ rfl rfl)) ?_
      refine wp_aload_n (pc := 54) dX3_insert_54 (by first | rfl | assumption | (repeat first | assumption | rfl | refine aG_n ?_ rfl rfl)) ?_
      refine wp_getR (pc := 55) dX3_insert_55 fl_3_9 (by first | rfl | assumption | exact sh_house (by omega) | exact sh_wish (by omega) | exact sh_wor (by omega) | exact sh_bar (by omega) | exact sh_term (by omega) | exact sh_sheet (by omega) | exact sh_items (by omega) | exact sh_sums (by omega)) rfl ?_
      refine wp_iload (pc := 58) dX3_insert_58 (by first | rfl | assumption | (repeat first | assumption | rfl | refine aG_n ?_ rfl rfl)) ?_
      refine wp_iconst (pc := 60) (v := 1) dX3_insert_60 (by decide) ?_
      refine wp_isub (pc := 61) dX3_insert_61 ?_
      refine wp_iald (pc := 62) dX3_insert_62 (by first | rfl | assumption | exact sh_house (by omega) | exact sh_wish (by omega) | exact sh_wor (by omega) | exact sh_bar (by omega) | exact sh_term (by omega) | exact sh_sheet (by omega) | exact sh_items (by omega) | exact sh_sums (by omega)) (by rw [nI_pred]; exact vp_in_nI (by omega) (by decide)) ?_
      refine wp_iast (pc := 63) dX3_insert_63 (by first | rfl | assumption | exact sh_house (by omega) | exact sh_wish (by omega) | exact sh_wor (by omega) | exact sh_bar (by omega) | exact sh_term (by omega) | exact sh_sheet (by omega) | exact sh_items (by omega) | exact sh_sums (by omega)) (vp_in_nI (by omega) (by decide)) ?_
      refine wp_iinc (pc := 64) dX3_insert_64 (by decide) (by first | rfl | assumption | (repeat first | assumption | rfl | refine aG_n ?_ rfl rfl)) rfl ?_
      refine wp_goto (pc := 67) (tgt := 24) dX3_insert_67 rfl ?_
      skip
      rw [nI_pred, cm, cm1, e30]
      refine ih (by omega) hpo' _ ⟨fun c h1 h2 => ?_, by exact ho.2⟩ ?_ (fun j hj => ?_) (fun j h1 h2 => ?_) _ (by first | rfl | assumption | (repeat first | assumption | rfl | refine aG_n ?_ rfl rfl)) (by first | rfl | assumption | (repeat first | assumption | rfl | refine aG_n ?_ rfl rfl)) (by first | rfl | assumption | (repeat first | assumption | rfl | refine aG_n ?_ rfl rfl)) (by first | rfl | assumption | (repeat first | assumption | rfl | refine aG_n ?_ rfl rfl)) (by first | rfl | assumption | (repeat first | assumption | rfl | refine aG_n ?_ rfl rfl)) (by rw [← pk_m1 m]; first | rfl | assumption | (repeat first | assumption | rfl | refine aG_n ?_ rfl rfl))
      · dsimp only; rw [up2_ne h2]; exact ho.1 c h1 h2
      · dsimp only; rw [up2_ne (by omega)]; exact h29
      · dsimp only; rw [up2_p (by omega)]; exact hlo j (by omega)
      · dsimp only
        by_cases e : j = m + 1
        · subst e; rw [up2_at]; rfl
        · rw [up2_p (by omega)]; exact hhi j (by omega) h2
    · have hpo' : po (wC μ.1 t wv d) q.1 x q.2 = m + 1 := by rw [hpo]; exact if_neg c
      refine wp_iload (pc := 24) dX3_insert_24 (by first | rfl | assumption | (repeat first | assumption | rfl | refine aG_n ?_ rfl rfl)) ?_
      refine wp_if_le (pc := 26) (tgt := 70) dX3_insert_26 rfl (fun q => absurd q (nI_nle (by omega) (by omega))) (fun _ => ?_)
      refine wp_aload_n (pc := 29) dX3_insert_29 (by first | rfl | assumption | (repeat first | assumption | rfl | refine aG_n ?_ rfl rfl)) ?_
      refine wp_iload_n (pc := 30) dX3_insert_30 (by first | rfl | assumption | (repeat first | assumption | rfl | refine aG_n ?_ rfl rfl)) ?_
      refine wp_aload_n (pc := 31) dX3_insert_31 (by first | rfl | assumption | (repeat first | assumption | rfl | refine aG_n ?_ rfl rfl)) ?_
      refine wp_getR (pc := 32) dX3_insert_32 fl_3_9 (by first | rfl | assumption | exact sh_house (by omega) | exact sh_wish (by omega) | exact sh_wor (by omega) | exact sh_bar (by omega) | exact sh_term (by omega) | exact sh_sheet (by omega) | exact sh_items (by omega) | exact sh_sums (by omega)) rfl ?_
      refine wp_iload (pc := 35) dX3_insert_35 (by first | rfl | assumption | (repeat first | assumption | rfl | refine aG_n ?_ rfl rfl)) ?_
      refine wp_iconst (pc := 37) (v := 1) dX3_insert_37 (by decide) ?_
      refine wp_isub (pc := 38) dX3_insert_38 ?_
      refine wp_iald (pc := 39) dX3_insert_39 (by first | rfl | assumption | exact sh_house (by omega) | exact sh_wish (by omega) | exact sh_wor (by omega) | exact sh_bar (by omega) | exact sh_term (by omega) | exact sh_sheet (by omega) | exact sh_items (by omega) | exact sh_sums (by omega)) (by rw [nI_pred]; exact vp_in_nI (by omega) (by decide)) ?_
      refine wp_cV (pc := 40) dX3_insert_40 lk_3_33 rfl (by decide) rfl (by first | rfl | assumption | exact sh_house (by omega) | exact sh_wish (by omega) | exact sh_wor (by omega) | exact sh_bar (by omega) | exact sh_term (by omega) | exact sh_sheet (by omega) | exact sh_items (by omega) | exact sh_sums (by omega)) rfl rfl ?_
      rw [nI_pred, cm, e30]
      refine c_X4_worthThen hPr' hd (hq m (by omega)) ?_
      rw [ew]
      refine aK_i ?_
      refine wp_iload (pc := 43) dX3_insert_43 (by first | rfl | assumption | (repeat first | assumption | rfl | refine aG_n ?_ rfl rfl)) ?_
      refine wp_icmp_ge (pc := 45) (tgt := 70) dX3_insert_45 rfl (fun _ => ?_) (fun q => absurd (i_nlt c) q)
      exact fin (m + 1) ha hpo' _ ho h29 hlo hhi _ (by first | rfl | assumption | (repeat first | assumption | rfl | refine aG_n ?_ rfl rfl)) (by first | rfl | assumption | (repeat first | assumption | rfl | refine aG_n ?_ rfl rfl)) (by first | rfl | assumption | (repeat first | assumption | rfl | refine aG_n ?_ rfl rfl))
theorem c_X3_insert {q : (Nat → Nat) × Nat} (hPr : Pr μ P t wv) (hN : PrN P wv) (hd : d < 2) (hx : x < 64) (hn : q.2 < 64) (hq : ∀ j, j < q.2 → q.1 j < 64) (h29 : μ.1 29 4 = nI q.2) (h30 : ∀ j, j < q.2 → μ.1 30 j = nI (q.1 j)) (k : ∀ μ', off2 μ μ' → μ'.1 29 4 = nI (q.2 + 1) → (∀ j, j < q.2 + 1 → μ'.1 30 j = nI ((inF (wC μ.1 t wv d) x q).1 j)) → Q none μ') : WP X mX3_insert 0 (lv_args 0 [.ref 29, .ref P, .int (nI d), .int (nI x)]) [] μ Q := by
  have hP := hPr.1
  refine wp_aload_n (pc := 0) dX3_insert_0 (by first | rfl | assumption | (repeat first | assumption | rfl | refine aG_n ?_ rfl rfl)) ?_
  refine wp_getI (pc := 1) dX3_insert_1 fl_3_15 (by first | rfl | assumption | exact sh_house (by omega) | exact sh_wish (by omega) | exact sh_wor (by omega) | exact sh_bar (by omega) | exact sh_term (by omega) | exact sh_sheet (by omega) | exact sh_items (by omega) | exact sh_sums (by omega)) rfl ?_
  refine wp_bipush (pc := 4) (v := 64) dX3_insert_4 (by decide) ?_
  refine wp_icmp_lt (pc := 6) (tgt := 10) dX3_insert_6 rfl (fun _ => ?_) (fun q => absurd (by rw [h29]; exact nI_lt (b := 64) hn (by omega)) q)
  refine wp_aload_n (pc := 10) dX3_insert_10 (by first | rfl | assumption | (repeat first | assumption | rfl | refine aG_n ?_ rfl rfl)) ?_
  refine wp_iload_n (pc := 11) dX3_insert_11 (by first | rfl | assumption | (repeat first | assumption | rfl | refine aG_n ?_ rfl rfl)) ?_
  refine wp_iload_n (pc := 12) dX3_insert_12 (by first | rfl | assumption | (repeat first | assumption | rfl | refine aG_n ?_ rfl rfl)) ?_
  refine wp_cV (pc := 13) dX3_insert_13 lk_3_33 rfl (by decide) rfl (by first | rfl | assumption | exact sh_house (by omega) | exact sh_wish (by omega) | exact sh_wor (by omega) | exact sh_bar (by omega) | exact sh_term (by omega) | exact sh_sheet (by omega) | exact sh_items (by omega) | exact sh_sums (by omega)) rfl rfl (c_X4_worthThen hPr hd hx (aK_i ?_))
  refine wp_istore (pc := 16) dX3_insert_16 (by decide) ?_
  refine wp_aload_n (pc := 18) dX3_insert_18 (by first | rfl | assumption | (repeat first | assumption | rfl | refine aG_n ?_ rfl rfl)) ?_
  refine wp_getI (pc := 19) dX3_insert_19 fl_3_15 (by first | rfl | assumption | exact sh_house (by omega) | exact sh_wish (by omega) | exact sh_wor (by omega) | exact sh_bar (by omega) | exact sh_term (by omega) | exact sh_sheet (by omega) | exact sh_items (by omega) | exact sh_sums (by omega)) rfl ?_
  refine wp_istore (pc := 22) dX3_insert_22 (by decide) ?_
  skip
  rw [h29]
  exact l_ins hPr hN hd hx hn hq k q.2 (Nat.le_refl _) rfl _ ⟨fun _ _ _ => rfl, rfl⟩ h29 h30 (fun j h1 h2 => absurd h1 (by omega)) _ (by first | rfl | assumption | (repeat first | assumption | rfl | refine aG_n ?_ rfl rfl)) (by first | rfl | assumption | (repeat first | assumption | rfl | refine aG_n ?_ rfl rfl)) (by first | rfl | assumption | (repeat first | assumption | rfl | refine aG_n ?_ rfl rfl)) (by first | rfl | assumption | (repeat first | assumption | rfl | refine aG_n ?_ rfl rfl)) (by first | rfl | assumption | (repeat first | assumption | rfl | refine aG_n ?_ rfl rfl)) (by first | rfl | assumption | (repeat first | assumption | rfl | refine aG_n ?_ rfl rfl))
theorem l_rank (hPr : Pr μ P t wv) (hN : PrN P wv) (hd : d < 2) (k : ∀ μ', off2 μ μ' → μ'.1 29 4 = nI (rkF (okC μ.1 t wv d) (wC μ.1 t wv d) 64).2 → (∀ j, j < (rkF (okC μ.1 t wv d) (wC μ.1 t wv d) 64).2 → μ'.1 30 j = nI ((rkF (okC μ.1 t wv d) (wC μ.1 t wv d) 64).1 j)) → Q none μ') : ∀ (f s : Nat), s + f = 64 → ∀ μ', off2 μ μ' → μ'.1 29 4 = nI (rkF (okC μ.1 t wv d) (wC μ.1 t wv d) s).2 → (∀ j, j < (rkF (okC μ.1 t wv d) (wC μ.1 t wv d) s).2 → μ'.1 30 j = nI ((rkF (okC μ.1 t wv d) (wC μ.1 t wv d) s).1 j)) → ∀ L : aL, aL_get L 0 = some (.ref 29) → aL_get L 1 = some (.ref P) → aL_get L 2 = some (.int (nI d)) → aL_get L 3 = some (.int (nI s)) → WP X mX3_rank 7 L [] μ' Q
  | 0, s, hs, μ', ho, h29, h30, L, g0, g1, g2, g3 => by
    obtain rfl : s = 64 := by omega
    refine wp_iload_n (pc := 7) dX3_rank_7 (by first | rfl | assumption | (repeat first | assumption | rfl | refine aG_n ?_ rfl rfl)) ?_
    refine wp_bipush (pc := 8) (v := 64) dX3_rank_8 (by decide) ?_
    refine wp_icmp_ge (pc := 10) (tgt := 43) dX3_rank_10 rfl (fun _ => ?_) (fun q => absurd (nI_le (a := 64) (b := 64) (by omega) (by omega)) q)
    refine wp_vreturn (pc := 43) dX3_rank_43 rfl ?_
    exact k _ ho h29 h30
  | f + 1, s, hs, μ', ho, h29, h30, L, g0, g1, g2, g3 => by
    have hPr' := Pr_2 hPr hN ho
    have hP := hPr.1
    have hw2 : wv d + 1 ≠ 29 ∧ wv d + 1 ≠ 30 ∧ wv d + 2 ≠ 29 ∧ wv d + 2 ≠ 30 := by have := hN.2 d hd; omega
    obtain ⟨r1, r2⟩ := rkF_p (okC μ.1 t wv d) (wC μ.1 t wv d) s
    have ebar : μ'.1 (wv d + 2) = μ.1 (wv d + 2) := ho.1 _ hw2.2.2.1 hw2.2.2.2
    have ewc : wC μ'.1 t wv d = wC μ.1 t wv d := by unfold wC; rw [ho.1 _ hw2.1 hw2.2.1]
    by_cases c1 : nI s &&& ((nI (t 0) ||| nI (t 1)) ^^^ (-1)) = 0
    · by_cases c2 : μ.1 (wv d + 2) (t d ^^^ s) = 0
      · have eok : rkF (okC μ.1 t wv d) (wC μ.1 t wv d) (s + 1) = inF (wC μ.1 t wv d) s (rkF (okC μ.1 t wv d) (wC μ.1 t wv d) s) := if_pos (decide_eq_true ⟨c1, c2⟩)
        refine wp_iload_n (pc := 7) dX3_rank_7 (by first | rfl | assumption | (repeat first | assumption | rfl | refine aG_n ?_ rfl rfl)) ?_
        refine wp_bipush (pc := 8) (v := 64) dX3_rank_8 (by decide) ?_
        refine wp_icmp_ge (pc := 10) (tgt := 43) dX3_rank_10 rfl (fun q => absurd q (nI_ge (a := s) (b := 64) (by omega) (by omega))) (fun _ => ?_)
        refine wp_aload_n (pc := 13) dX3_rank_13 (by first | rfl | assumption | (repeat first | assumption | rfl | refine aG_n ?_ rfl rfl)) ?_
        refine wp_iload_n (pc := 14) dX3_rank_14 (by first | rfl | assumption | (repeat first | assumption | rfl | refine aG_n ?_ rfl rfl)) ?_
        refine wp_cV (pc := 15) dX3_rank_15 lk_3_19 rfl (by decide) rfl (by first | rfl | assumption | exact sh_house (by omega) | exact sh_wish (by omega) | exact sh_wor (by omega) | exact sh_bar (by omega) | exact sh_term (by omega) | exact sh_sheet (by omega) | exact sh_items (by omega) | exact sh_sums (by omega)) rfl rfl (c_X4_isInPool hPr' (fun _ => aK_i ?_) (fun q => absurd c1 q))
        refine wp_if_eq (pc := 18) (tgt := 37) dX3_rank_18 rfl (fun q => absurd q (by decide)) (fun _ => ?_)
        refine wp_aload_n (pc := 21) dX3_rank_21 (by first | rfl | assumption | (repeat first | assumption | rfl | refine aG_n ?_ rfl rfl)) ?_
        refine wp_iload_n (pc := 22) dX3_rank_22 (by first | rfl | assumption | (repeat first | assumption | rfl | refine aG_n ?_ rfl rfl)) ?_
        refine wp_iload_n (pc := 23) dX3_rank_23 (by first | rfl | assumption | (repeat first | assumption | rfl | refine aG_n ?_ rfl rfl)) ?_
        refine wp_cV (pc := 24) dX3_rank_24 lk_3_25 rfl (by decide) rfl (by first | rfl | assumption | exact sh_house (by omega) | exact sh_wish (by omega) | exact sh_wor (by omega) | exact sh_bar (by omega) | exact sh_term (by omega) | exact sh_sheet (by omega) | exact sh_items (by omega) | exact sh_sums (by omega)) rfl rfl (c_X4_isBarredTo hPr' hd (show s < 64 by omega) (fun q => absurd (by rw [ebar]; exact c2) q) (fun _ => aK_i ?_))
        refine wp_if_ne (pc := 27) (tgt := 37) dX3_rank_27 rfl (fun q => absurd rfl q) (fun _ => ?_)
        refine wp_aload_n (pc := 30) dX3_rank_30 (by first | rfl | assumption | (repeat first | assumption | rfl | refine aG_n ?_ rfl rfl)) ?_
        refine wp_aload_n (pc := 31) dX3_rank_31 (by first | rfl | assumption | (repeat first | assumption | rfl | refine aG_n ?_ rfl rfl)) ?_
        refine wp_iload_n (pc := 32) dX3_rank_32 (by first | rfl | assumption | (repeat first | assumption | rfl | refine aG_n ?_ rfl rfl)) ?_
        refine wp_iload_n (pc := 33) dX3_rank_33 (by first | rfl | assumption | (repeat first | assumption | rfl | refine aG_n ?_ rfl rfl)) ?_
        refine wp_cV (pc := 34) dX3_rank_34 lk_3_29 rfl (by decide) rfl (by first | rfl | assumption | exact sh_house (by omega) | exact sh_wish (by omega) | exact sh_wor (by omega) | exact sh_bar (by omega) | exact sh_term (by omega) | exact sh_sheet (by omega) | exact sh_items (by omega) | exact sh_sums (by omega)) rfl rfl ?_
        refine c_X3_insert hPr' hN hd (show s < 64 by omega) (by omega) (fun j hj => Nat.lt_trans (r2 j hj) (by omega)) h29 h30 (fun μ2 o2 a2 b2 => aK_v ?_)
        rw [ewc] at b2
        refine wp_iinc (pc := 37) dX3_rank_37 (by decide) (by first | rfl | assumption | (repeat first | assumption | rfl | refine aG_n ?_ rfl rfl)) rfl ?_
        refine wp_goto (pc := 40) (tgt := 7) dX3_rank_40 rfl ?_
        exact l_rank hPr hN hd k f (s + 1) (by omega) _ ⟨fun c h1 h2 => (o2.1 c h1 h2).trans (ho.1 c h1 h2), o2.2.trans ho.2⟩ (by rw [eok]; exact a2) (by rw [eok]; exact b2) _ (by first | rfl | assumption | (repeat first | assumption | rfl | refine aG_n ?_ rfl rfl)) (by first | rfl | assumption | (repeat first | assumption | rfl | refine aG_n ?_ rfl rfl)) (by first | rfl | assumption | (repeat first | assumption | rfl | refine aG_n ?_ rfl rfl)) (by rw [← nI_i1]; first | rfl | assumption | (repeat first | assumption | rfl | refine aG_n ?_ rfl rfl))
      · have eok : rkF (okC μ.1 t wv d) (wC μ.1 t wv d) (s + 1) = rkF (okC μ.1 t wv d) (wC μ.1 t wv d) s := if_neg (fun z => c2 (of_decide_eq_true z).2)
        refine wp_iload_n (pc := 7) dX3_rank_7 (by first | rfl | assumption | (repeat first | assumption | rfl | refine aG_n ?_ rfl rfl)) ?_
        refine wp_bipush (pc := 8) (v := 64) dX3_rank_8 (by decide) ?_
        refine wp_icmp_ge (pc := 10) (tgt := 43) dX3_rank_10 rfl (fun q => absurd q (nI_ge (a := s) (b := 64) (by omega) (by omega))) (fun _ => ?_)
        refine wp_aload_n (pc := 13) dX3_rank_13 (by first | rfl | assumption | (repeat first | assumption | rfl | refine aG_n ?_ rfl rfl)) ?_
        refine wp_iload_n (pc := 14) dX3_rank_14 (by first | rfl | assumption | (repeat first | assumption | rfl | refine aG_n ?_ rfl rfl)) ?_
        refine wp_cV (pc := 15) dX3_rank_15 lk_3_19 rfl (by decide) rfl (by first | rfl | assumption | exact sh_house (by omega) | exact sh_wish (by omega) | exact sh_wor (by omega) | exact sh_bar (by omega) | exact sh_term (by omega) | exact sh_sheet (by omega) | exact sh_items (by omega) | exact sh_sums (by omega)) rfl rfl (c_X4_isInPool hPr' (fun _ => aK_i ?_) (fun q => absurd c1 q))
        refine wp_if_eq (pc := 18) (tgt := 37) dX3_rank_18 rfl (fun q => absurd q (by decide)) (fun _ => ?_)
        refine wp_aload_n (pc := 21) dX3_rank_21 (by first | rfl | assumption | (repeat first | assumption | rfl | refine aG_n ?_ rfl rfl)) ?_
        refine wp_iload_n (pc := 22) dX3_rank_22 (by first | rfl | assumption | (repeat first | assumption | rfl | refine aG_n ?_ rfl rfl)) ?_
        refine wp_iload_n (pc := 23) dX3_rank_23 (by first | rfl | assumption | (repeat first | assumption | rfl | refine aG_n ?_ rfl rfl)) ?_
        refine wp_cV (pc := 24) dX3_rank_24 lk_3_25 rfl (by decide) rfl (by first | rfl | assumption | exact sh_house (by omega) | exact sh_wish (by omega) | exact sh_wor (by omega) | exact sh_bar (by omega) | exact sh_term (by omega) | exact sh_sheet (by omega) | exact sh_items (by omega) | exact sh_sums (by omega)) rfl rfl (c_X4_isBarredTo hPr' hd (show s < 64 by omega) (fun _ => aK_i ?_) (fun q => absurd (by rw [ebar] at q; exact q) c2))
        refine wp_if_ne (pc := 27) (tgt := 37) dX3_rank_27 rfl (fun _ => ?_) (fun q => absurd q (by decide))
        refine wp_iinc (pc := 37) dX3_rank_37 (by decide) (by first | rfl | assumption | (repeat first | assumption | rfl | refine aG_n ?_ rfl rfl)) rfl ?_
        refine wp_goto (pc := 40) (tgt := 7) dX3_rank_40 rfl ?_
        exact l_rank hPr hN hd k f (s + 1) (by omega) _ ho (by rw [eok]; exact h29) (by rw [eok]; exact h30) _ (by first | rfl | assumption | (repeat first | assumption | rfl | refine aG_n ?_ rfl rfl)) (by first | rfl | assumption | (repeat first | assumption | rfl | refine aG_n ?_ rfl rfl)) (by first | rfl | assumption | (repeat first | assumption | rfl | refine aG_n ?_ rfl rfl)) (by rw [← nI_i1]; first | rfl | assumption | (repeat first | assumption | rfl | refine aG_n ?_ rfl rfl))
    · have eok : rkF (okC μ.1 t wv d) (wC μ.1 t wv d) (s + 1) = rkF (okC μ.1 t wv d) (wC μ.1 t wv d) s := if_neg (fun z => c1 (of_decide_eq_true z).1)
      refine wp_iload_n (pc := 7) dX3_rank_7 (by first | rfl | assumption | (repeat first | assumption | rfl | refine aG_n ?_ rfl rfl)) ?_
      refine wp_bipush (pc := 8) (v := 64) dX3_rank_8 (by decide) ?_
      refine wp_icmp_ge (pc := 10) (tgt := 43) dX3_rank_10 rfl (fun q => absurd q (nI_ge (a := s) (b := 64) (by omega) (by omega))) (fun _ => ?_)
      refine wp_aload_n (pc := 13) dX3_rank_13 (by first | rfl | assumption | (repeat first | assumption | rfl | refine aG_n ?_ rfl rfl)) ?_
      refine wp_iload_n (pc := 14) dX3_rank_14 (by first | rfl | assumption | (repeat first | assumption | rfl | refine aG_n ?_ rfl rfl)) ?_
      refine wp_cV (pc := 15) dX3_rank_15 lk_3_19 rfl (by decide) rfl (by first | rfl | assumption | exact sh_house (by omega) | exact sh_wish (by omega) | exact sh_wor (by omega) | exact sh_bar (by omega) | exact sh_term (by omega) | exact sh_sheet (by omega) | exact sh_items (by omega) | exact sh_sums (by omega)) rfl rfl (c_X4_isInPool hPr' (fun q => absurd q c1) (fun _ => aK_i ?_))
      refine wp_if_eq (pc := 18) (tgt := 37) dX3_rank_18 rfl (fun _ => ?_) (fun q => absurd q (by decide))
      refine wp_iinc (pc := 37) dX3_rank_37 (by decide) (by first | rfl | assumption | (repeat first | assumption | rfl | refine aG_n ?_ rfl rfl)) rfl ?_
      refine wp_goto (pc := 40) (tgt := 7) dX3_rank_40 rfl ?_
      exact l_rank hPr hN hd k f (s + 1) (by omega) _ ho (by rw [eok]; exact h29) (by rw [eok]; exact h30) _ (by first | rfl | assumption | (repeat first | assumption | rfl | refine aG_n ?_ rfl rfl)) (by first | rfl | assumption | (repeat first | assumption | rfl | refine aG_n ?_ rfl rfl)) (by first | rfl | assumption | (repeat first | assumption | rfl | refine aG_n ?_ rfl rfl)) (by rw [← nI_i1]; first | rfl | assumption | (repeat first | assumption | rfl | refine aG_n ?_ rfl rfl))
theorem c_X3_rank (hPr : Pr μ P t wv) (hN : PrN P wv) (hd : d < 2) (k : ∀ μ', off2 μ μ' → μ'.1 29 4 = nI (rkF (okC μ.1 t wv d) (wC μ.1 t wv d) 64).2 → (∀ j, j < (rkF (okC μ.1 t wv d) (wC μ.1 t wv d) 64).2 → μ'.1 30 j = nI ((rkF (okC μ.1 t wv d) (wC μ.1 t wv d) 64).1 j)) → Q none μ') : WP X mX3_rank 0 (lv_args 0 [.ref 29, .ref P, .int (nI d)]) [] μ Q := by
  have hP := hPr.1
  refine wp_aload_n (pc := 0) dX3_rank_0 (by first | rfl | assumption | (repeat first | assumption | rfl | refine aG_n ?_ rfl rfl)) ?_
  refine wp_iconst (pc := 1) (v := 0) dX3_rank_1 (by decide) ?_
  refine wp_putI (pc := 2) dX3_rank_2 fl_3_15 (by first | rfl | assumption | exact sh_house (by omega) | exact sh_wish (by omega) | exact sh_wor (by omega) | exact sh_bar (by omega) | exact sh_term (by omega) | exact sh_sheet (by omega) | exact sh_items (by omega) | exact sh_sums (by omega)) rfl rfl rfl ?_
  refine wp_iconst (pc := 5) (v := 0) dX3_rank_5 (by decide) ?_
  refine wp_istore_n (pc := 6) dX3_rank_6 (by decide) ?_
  exact l_rank hPr hN hd k 64 0 (by omega) (up2 μ.1 29 4 0, μ.2) ⟨fun c h1 h2 => up2_ne h1, rfl⟩ (by dsimp only; exact up2_at) (fun j hj => absurd hj (by simp [rkF])) _ (by first | rfl | assumption | (repeat first | assumption | rfl | refine aG_n ?_ rfl rfl)) (by first | rfl | assumption | (repeat first | assumption | rfl | refine aG_n ?_ rfl rfl)) (by first | rfl | assumption | (repeat first | assumption | rfl | refine aG_n ?_ rfl rfl)) (by first | rfl | assumption | (repeat first | assumption | rfl | refine aG_n ?_ rfl rfl))
end RANK
/-! the model's choices -/
def chP (M : MM) (w : Nat → Int32) (q : (Nat → Nat) × Nat) : Prop := M 86 29 = nI q.2 ∧ ∀ j, j < q.2 → M 103 j = nI (q.1 j) ∧ M 104 j = w (q.1 j)
section CHOICE
variable {X : aX} {μ : Mm} {Q : Option Value → Mm → Prop} {x : Nat} {w : Nat → Int32}
theorem l_addc {q : (Nat → Nat) × Nat} (hx : x < 64) (hn : q.2 < 64) (k : ∀ μ', offM μ μ' → chP μ'.1 w (inF w x q) → Q none μ') : ∀ (at' : Nat), at' ≤ q.2 → po w q.1 x q.2 = po w q.1 x at' → ∀ μ', offM μ μ' → μ'.1 86 29 = nI q.2 → (∀ j, j < at' → μ'.1 103 j = nI (q.1 j) ∧ μ'.1 104 j = w (q.1 j)) → (∀ j, at' < j → j ≤ q.2 → μ'.1 103 j = nI (q.1 (j - 1)) ∧ μ'.1 104 j = w (q.1 (j - 1))) → ∀ L : aL, aL_get L 0 = some (.ref 86) → aL_get L 1 = some (.int (nI x)) → aL_get L 2 = some (.int (w x)) → aL_get L 3 = some (.int (nI at')) → WP X mX12_addChoice 5 L [] μ' Q := by
  have fin : ∀ p, p ≤ q.2 → po w q.1 x q.2 = p → ∀ μ' : Mm, offM μ μ' → μ'.1 86 29 = nI q.2 → (∀ j, j < p → μ'.1 103 j = nI (q.1 j) ∧ μ'.1 104 j = w (q.1 j)) → (∀ j, p < j → j ≤ q.2 → μ'.1 103 j = nI (q.1 (j - 1)) ∧ μ'.1 104 j = w (q.1 (j - 1))) → ∀ L : aL, aL_get L 0 = some (.ref 86) → aL_get L 1 = some (.int (nI x)) → aL_get L 2 = some (.int (w x)) → aL_get L 3 = some (.int (nI p)) → WP X mX12_addChoice 55 L [] μ' Q := by
    intro p hp hpo μ' ho h29 hlo hhi L g0 g1 g2 g3
    have cp : (nI p).toNatClampNeg = p := nI_clamp (by omega)
    refine wp_aload_n (pc := 55) dX12_addChoice_55 (by first | rfl | assumption | (repeat first | assumption | rfl | refine aG_n ?_ rfl rfl)) ?_
    refine wp_getR (pc := 56) dX12_addChoice_56 fl_12_59 (by first | rfl | assumption | exact sh_house (by omega) | exact sh_wish (by omega) | exact sh_wor (by omega) | exact sh_bar (by omega) | exact sh_term (by omega) | exact sh_sheet (by omega) | exact sh_items (by omega) | exact sh_sums (by omega)) rfl ?_
    refine wp_iload_n (pc := 59) dX12_addChoice_59 (by first | rfl | assumption | (repeat first | assumption | rfl | refine aG_n ?_ rfl rfl)) ?_
    refine wp_iload_n (pc := 60) dX12_addChoice_60 (by first | rfl | assumption | (repeat first | assumption | rfl | refine aG_n ?_ rfl rfl)) ?_
    refine wp_iast (pc := 61) dX12_addChoice_61 (by first | rfl | assumption | exact sh_house (by omega) | exact sh_wish (by omega) | exact sh_wor (by omega) | exact sh_bar (by omega) | exact sh_term (by omega) | exact sh_sheet (by omega) | exact sh_items (by omega) | exact sh_sums (by omega)) (vp_in_nI (by omega) (by decide)) ?_
    refine wp_aload_n (pc := 62) dX12_addChoice_62 (by first | rfl | assumption | (repeat first | assumption | rfl | refine aG_n ?_ rfl rfl)) ?_
    refine wp_getR (pc := 63) dX12_addChoice_63 fl_12_62 (by first | rfl | assumption | exact sh_house (by omega) | exact sh_wish (by omega) | exact sh_wor (by omega) | exact sh_bar (by omega) | exact sh_term (by omega) | exact sh_sheet (by omega) | exact sh_items (by omega) | exact sh_sums (by omega)) rfl ?_
    refine wp_iload_n (pc := 66) dX12_addChoice_66 (by first | rfl | assumption | (repeat first | assumption | rfl | refine aG_n ?_ rfl rfl)) ?_
    refine wp_iload_n (pc := 67) dX12_addChoice_67 (by first | rfl | assumption | (repeat first | assumption | rfl | refine aG_n ?_ rfl rfl)) ?_
    refine wp_iast (pc := 68) dX12_addChoice_68 (by first | rfl | assumption | exact sh_house (by omega) | exact sh_wish (by omega) | exact sh_wor (by omega) | exact sh_bar (by omega) | exact sh_term (by omega) | exact sh_sheet (by omega) | exact sh_items (by omega) | exact sh_sums (by omega)) (vp_in_nI (by omega) (by decide)) ?_
    refine wp_aload_n (pc := 69) dX12_addChoice_69 (by first | rfl | assumption | (repeat first | assumption | rfl | refine aG_n ?_ rfl rfl)) ?_
    refine wp_dupr (pc := 70) dX12_addChoice_70 ?_
    refine wp_getI (pc := 71) dX12_addChoice_71 fl_12_278 (by first | rfl | assumption | exact sh_house (by omega) | exact sh_wish (by omega) | exact sh_wor (by omega) | exact sh_bar (by omega) | exact sh_term (by omega) | exact sh_sheet (by omega) | exact sh_items (by omega) | exact sh_sums (by omega)) rfl ?_
    refine wp_iconst (pc := 74) (v := 1) dX12_addChoice_74 (by decide) ?_
    refine wp_iadd (pc := 75) dX12_addChoice_75 ?_
    refine wp_putI (pc := 76) dX12_addChoice_76 fl_12_278 (by first | rfl | assumption | exact sh_house (by omega) | exact sh_wish (by omega) | exact sh_wor (by omega) | exact sh_bar (by omega) | exact sh_term (by omega) | exact sh_sheet (by omega) | exact sh_items (by omega) | exact sh_sums (by omega)) rfl rfl rfl ?_
    refine wp_vreturn (pc := 79) dX12_addChoice_79 rfl ?_
    skip
    rw [cp]
    refine k _ ⟨fun c j hc => ?_, ho.2⟩ ⟨?_, fun j hj => ?_⟩
    · dsimp only; rw [up2_p (by omega), up2_p (by omega), up2_p (by omega)]; exact ho.1 c j hc
    · dsimp only; rw [up2_at, up2_ne (by omega), up2_ne (by omega), h29, nI_1]; rfl
    · dsimp only
      have hj' : j < q.2 + 1 := hj
      rw [up2_ne (show 103 ≠ 86 by decide), up2_ne (show 104 ≠ 86 by decide), up2_ne (show 103 ≠ 104 by decide)]
      unfold inF
      dsimp only
      rw [hpo]
      by_cases e1 : j = p
      · subst e1
        rw [up2_at, up2_at, if_neg (by omega), if_pos rfl]
        exact ⟨rfl, rfl⟩
      · rw [up2_p (by omega), up2_p (by omega), up2_ne (show 104 ≠ 103 by decide)]
        by_cases e2 : j < p
        · rw [if_pos e2]; exact hlo j e2
        · rw [if_neg e2, if_neg e1]; exact hhi j (by omega) (by omega)
  intro at'
  induction at' with
  | zero =>
    intro ha hpo μ' ho h29 hlo hhi L g0 g1 g2 g3
    refine wp_iload_n (pc := 5) dX12_addChoice_5 (by first | rfl | assumption | (repeat first | assumption | rfl | refine aG_n ?_ rfl rfl)) ?_
    refine wp_if_le (pc := 6) (tgt := 55) dX12_addChoice_6 rfl (fun _ => ?_) (fun q => absurd (by decide) q)
    exact fin 0 ha hpo _ ho h29 hlo hhi _ (by first | rfl | assumption | (repeat first | assumption | rfl | refine aG_n ?_ rfl rfl)) (by first | rfl | assumption | (repeat first | assumption | rfl | refine aG_n ?_ rfl rfl)) (by first | rfl | assumption | (repeat first | assumption | rfl | refine aG_n ?_ rfl rfl)) (by first | rfl | assumption | (repeat first | assumption | rfl | refine aG_n ?_ rfl rfl))
  | succ m ih =>
    intro ha hpo μ' ho h29 hlo hhi L g0 g1 g2 g3
    have cm : (nI m).toNatClampNeg = m := nI_clamp (by omega)
    have cm1 : (nI (m + 1)).toNatClampNeg = m + 1 := nI_clamp (by omega)
    obtain ⟨e103, e104⟩ := hlo m (by omega)
    by_cases c : w (q.1 m) < w x
    · have hpo' : po w q.1 x q.2 = po w q.1 x m := by rw [hpo]; exact if_pos c
      refine wp_iload_n (pc := 5) dX12_addChoice_5 (by first | rfl | assumption | (repeat first | assumption | rfl | refine aG_n ?_ rfl rfl)) ?_
      refine wp_if_le (pc := 6) (tgt := 55) dX12_addChoice_6 rfl (fun q => absurd q (nI_nle (by omega) (by omega))) (fun _ => ?_)
      refine wp_aload_n (pc := 9) dX12_addChoice_9 (by first | rfl | assumption | (repeat first | assumption | rfl | refine aG_n ?_ rfl rfl)) ?_
      refine wp_getR (pc := 10) dX12_addChoice_10 fl_12_62 (by first | rfl | assumption | exact sh_house (by omega) | exact sh_wish (by omega) | exact sh_wor (by omega) | exact sh_bar (by omega) | exact sh_term (by omega) | exact sh_sheet (by omega) | exact sh_items (by omega) | exact sh_sums (by omega)) rfl ?_
      refine wp_iload_n (pc := 13) dX12_addChoice_13 (by first | rfl | assumption | (repeat first | assumption | rfl | refine aG_n ?_ rfl rfl)) ?_
      refine wp_iconst (pc := 14) (v := 1) dX12_addChoice_14 (by decide) ?_
      refine wp_isub (pc := 15) dX12_addChoice_15 ?_
      refine wp_iald (pc := 16) dX12_addChoice_16 (by first | rfl | assumption | exact sh_house (by omega) | exact sh_wish (by omega) | exact sh_wor (by omega) | exact sh_bar (by omega) | exact sh_term (by omega) | exact sh_sheet (by omega) | exact sh_items (by omega) | exact sh_sums (by omega)) (by rw [nI_pred]; exact vp_in_nI (by omega) (by decide)) ?_
      refine wp_iload_n (pc := 17) dX12_addChoice_17 (by first | rfl | assumption | (repeat first | assumption | rfl | refine aG_n ?_ rfl rfl)) ?_
      refine wp_icmp_ge (pc := 18) (tgt := 55) dX12_addChoice_18 rfl (fun q => absurd q (by rw [nI_pred, cm, e104]; exact fun z => i_nle c z)) (fun _ => ?_)
      refine wp_aload_n (pc := 21) dX12_addChoice_21 (by first | rfl | assumption | (repeat first | assumption | rfl | refine aG_n ?_ rfl rfl)) ?_
      refine wp_getR (pc := 22) dX12_addChoice_22 fl_12_59 (by first | rfl | assumption | exact sh_house (by omega) | exact sh_wish (by omega) | exact sh_wor (by omega) | exact sh_bar (by omega) | exact sh_term (by omega) | exact sh_sheet (by omega) | exact sh_items (by omega) | exact sh_sums (by omega)) rfl ?_
      refine wp_iload_n (pc := 25) dX12_addChoice_25 (by first | rfl | assumption | (repeat first | assumption | rfl | refine aG_n ?_ rfl rfl)) ?_
      refine wp_aload_n (pc := 26) dX12_addChoice_26 (by first | rfl | assumption | (repeat first | assumption | rfl | refine aG_n ?_ rfl rfl)) ?_
      refine wp_getR (pc := 27) dX12_addChoice_27 fl_12_59 (by first | rfl | assumption | exact sh_house (by omega) | exact sh_wish (by omega) | exact sh_wor (by omega) | exact sh_bar (by omega) | exact sh_term (by omega) | exact sh_sheet (by omega) | exact sh_items (by omega) | exact sh_sums (by omega)) rfl ?_
      refine wp_iload_n (pc := 30) dX12_addChoice_30 (by first | rfl | assumption | (repeat first | assumption | rfl | refine aG_n ?_ rfl rfl)) ?_
      refine wp_iconst (pc := 31) (v := 1) dX12_addChoice_31 (by decide) ?_
      refine wp_isub (pc := 32) dX12_addChoice_32 ?_
      refine wp_iald (pc := 33) dX12_addChoice_33 (by first | rfl | assumption | exact sh_house (by omega) | exact sh_wish (by omega) | exact sh_wor (by omega) | exact sh_bar (by omega) | exact sh_term (by omega) | exact sh_sheet (by omega) | exact sh_items (by omega) | exact sh_sums (by omega)) (by rw [nI_pred]; exact vp_in_nI (by omega) (by decide)) ?_
      refine wp_iast (pc := 34) dX12_addChoice_34 (by first | rfl | assumption | exact sh_house (by omega) | exact sh_wish (by omega) | exact sh_wor (by omega) | exact sh_bar (by omega) | exact sh_term (by omega) | exact sh_sheet (by omega) | exact sh_items (by omega) | exact sh_sums (by omega)) (vp_in_nI (by omega) (by decide)) ?_
      refine wp_aload_n (pc := 35) dX12_addChoice_35 (by first | rfl | assumption | (repeat first | assumption | rfl | refine aG_n ?_ rfl rfl)) ?_
      refine wp_getR (pc := 36) dX12_addChoice_36 fl_12_62 (by first | rfl | assumption | exact sh_house (by omega) | exact sh_wish (by omega) | exact sh_wor (by omega) | exact sh_bar (by omega) | exact sh_term (by omega) | exact sh_sheet (by omega) | exact sh_items (by omega) | exact sh_sums (by omega)) rfl ?_
      refine wp_iload_n (pc := 39) dX12_addChoice_39 (by first | rfl | assumption | (repeat first | assumption | rfl | refine aG_n ?_ rfl rfl)) ?_
      refine wp_aload_n (pc := 40) dX12_addChoice_40 (by first | rfl | assumption | (repeat first | assumption | rfl | refine aG_n ?_ rfl rfl)) ?_
      refine wp_getR (pc := 41) dX12_addChoice_41 fl_12_62 (by first | rfl | assumption | exact sh_house (by omega) | exact sh_wish (by omega) | exact sh_wor (by omega) | exact sh_bar (by omega) | exact sh_term (by omega) | exact sh_sheet (by omega) | exact sh_items (by omega) | exact sh_sums (by omega)) rfl ?_
      refine wp_iload_n (pc := 44) dX12_addChoice_44 (by first | rfl | assumption | (repeat first | assumption | rfl | refine aG_n ?_ rfl rfl)) ?_
      refine wp_iconst (pc := 45) (v := 1) dX12_addChoice_45 (by decide) ?_
      refine wp_isub (pc := 46) dX12_addChoice_46 ?_
      refine wp_iald (pc := 47) dX12_addChoice_47 (by first | rfl | assumption | exact sh_house (by omega) | exact sh_wish (by omega) | exact sh_wor (by omega) | exact sh_bar (by omega) | exact sh_term (by omega) | exact sh_sheet (by omega) | exact sh_items (by omega) | exact sh_sums (by omega)) (by rw [nI_pred]; exact vp_in_nI (by omega) (by decide)) ?_
      refine wp_iast (pc := 48) dX12_addChoice_48 (by first | rfl | assumption | exact sh_house (by omega) | exact sh_wish (by omega) | exact sh_wor (by omega) | exact sh_bar (by omega) | exact sh_term (by omega) | exact sh_sheet (by omega) | exact sh_items (by omega) | exact sh_sums (by omega)) (vp_in_nI (by omega) (by decide)) ?_
      refine wp_iinc (pc := 49) dX12_addChoice_49 (by decide) (by first | rfl | assumption | (repeat first | assumption | rfl | refine aG_n ?_ rfl rfl)) rfl ?_
      refine wp_goto (pc := 52) (tgt := 5) dX12_addChoice_52 rfl ?_
      skip
      dsimp only
      rw [nI_pred, cm, cm1, e103, up2_ne (show 104 ≠ 103 by decide), e104]
      refine ih (by omega) hpo' _ ⟨fun c j hc => ?_, by exact ho.2⟩ ?_ (fun j hj => ?_) (fun j h1 h2 => ?_) _ (by first | rfl | assumption | (repeat first | assumption | rfl | refine aG_n ?_ rfl rfl)) (by first | rfl | assumption | (repeat first | assumption | rfl | refine aG_n ?_ rfl rfl)) (by first | rfl | assumption | (repeat first | assumption | rfl | refine aG_n ?_ rfl rfl)) (by rw [← pk_m1 m]; first | rfl | assumption | (repeat first | assumption | rfl | refine aG_n ?_ rfl rfl))
      · dsimp only; rw [up2_p (by omega), up2_p (by omega)]; exact ho.1 c j hc
      · dsimp only; rw [up2_ne (by omega), up2_ne (by omega)]; exact h29
      · dsimp only; rw [up2_ne (show 103 ≠ 104 by decide), up2_p (by omega), up2_p (by omega), up2_ne (show 104 ≠ 103 by decide)]; exact hlo j (by omega)
      · dsimp only
        by_cases e : j = m + 1
        · subst e; rw [up2_ne (show 103 ≠ 104 by decide), up2_at, up2_at]; exact ⟨rfl, rfl⟩
        · rw [up2_ne (show 103 ≠ 104 by decide), up2_p (by omega), up2_p (by omega), up2_ne (show 104 ≠ 103 by decide)]; exact hhi j (by omega) h2
    · have hpo' : po w q.1 x q.2 = m + 1 := by rw [hpo]; exact if_neg c
      refine wp_iload_n (pc := 5) dX12_addChoice_5 (by first | rfl | assumption | (repeat first | assumption | rfl | refine aG_n ?_ rfl rfl)) ?_
      refine wp_if_le (pc := 6) (tgt := 55) dX12_addChoice_6 rfl (fun q => absurd q (nI_nle (by omega) (by omega))) (fun _ => ?_)
      refine wp_aload_n (pc := 9) dX12_addChoice_9 (by first | rfl | assumption | (repeat first | assumption | rfl | refine aG_n ?_ rfl rfl)) ?_
      refine wp_getR (pc := 10) dX12_addChoice_10 fl_12_62 (by first | rfl | assumption | exact sh_house (by omega) | exact sh_wish (by omega) | exact sh_wor (by omega) | exact sh_bar (by omega) | exact sh_term (by omega) | exact sh_sheet (by omega) | exact sh_items (by omega) | exact sh_sums (by omega)) rfl ?_
      refine wp_iload_n (pc := 13) dX12_addChoice_13 (by first | rfl | assumption | (repeat first | assumption | rfl | refine aG_n ?_ rfl rfl)) ?_
      refine wp_iconst (pc := 14) (v := 1) dX12_addChoice_14 (by decide) ?_
      refine wp_isub (pc := 15) dX12_addChoice_15 ?_
      refine wp_iald (pc := 16) dX12_addChoice_16 (by first | rfl | assumption | exact sh_house (by omega) | exact sh_wish (by omega) | exact sh_wor (by omega) | exact sh_bar (by omega) | exact sh_term (by omega) | exact sh_sheet (by omega) | exact sh_items (by omega) | exact sh_sums (by omega)) (by rw [nI_pred]; exact vp_in_nI (by omega) (by decide)) ?_
      refine wp_iload_n (pc := 17) dX12_addChoice_17 (by first | rfl | assumption | (repeat first | assumption | rfl | refine aG_n ?_ rfl rfl)) ?_
      refine wp_icmp_ge (pc := 18) (tgt := 55) dX12_addChoice_18 rfl (fun _ => ?_) (fun q => absurd (by rw [nI_pred, cm, e104]; exact i_nlt c) q)
      exact fin (m + 1) ha hpo' _ ho h29 hlo hhi _ (by first | rfl | assumption | (repeat first | assumption | rfl | refine aG_n ?_ rfl rfl)) (by first | rfl | assumption | (repeat first | assumption | rfl | refine aG_n ?_ rfl rfl)) (by first | rfl | assumption | (repeat first | assumption | rfl | refine aG_n ?_ rfl rfl)) (by first | rfl | assumption | (repeat first | assumption | rfl | refine aG_n ?_ rfl rfl))
theorem c_X12_addChoice {q : (Nat → Nat) × Nat} (hx : x < 64) (hn : q.2 < 64) (hc : chP μ.1 w q) (k : ∀ μ', offM μ μ' → chP μ'.1 w (inF w x q) → Q none μ') : WP X mX12_addChoice 0 (lv_args 0 [.ref 86, .int (nI x), .int (w x)]) [] μ Q := by
  refine wp_aload_n (pc := 0) dX12_addChoice_0 (by first | rfl | assumption | (repeat first | assumption | rfl | refine aG_n ?_ rfl rfl)) ?_
  refine wp_getI (pc := 1) dX12_addChoice_1 fl_12_278 (by first | rfl | assumption | exact sh_house (by omega) | exact sh_wish (by omega) | exact sh_wor (by omega) | exact sh_bar (by omega) | exact sh_term (by omega) | exact sh_sheet (by omega) | exact sh_items (by omega) | exact sh_sums (by omega)) rfl ?_
  refine wp_istore_n (pc := 4) dX12_addChoice_4 (by decide) ?_
  skip
  rw [hc.1]
  exact l_addc hx hn k q.2 (Nat.le_refl _) rfl _ ⟨fun _ _ _ => rfl, rfl⟩ hc.1 hc.2 (fun j h1 h2 => absurd h1 (by omega)) _ (by first | rfl | assumption | (repeat first | assumption | rfl | refine aG_n ?_ rfl rfl)) (by first | rfl | assumption | (repeat first | assumption | rfl | refine aG_n ?_ rfl rfl)) (by first | rfl | assumption | (repeat first | assumption | rfl | refine aG_n ?_ rfl rfl)) (by first | rfl | assumption | (repeat first | assumption | rfl | refine aG_n ?_ rfl rfl))
theorem offM.wish {μ μ' : Mm} (h : offM μ μ') (hW : I_wish μ.1) : I_wish μ'.1 := by
  have hr : ∀ c, ¬ (c = 103 ∨ c = 104 ∨ c = 86) → μ'.1 c = μ.1 c := fun c hc => funext fun j => h.1 c j (by omega)
  exact wish_c ⟨hr _ (by omega), hr _ (by omega), hr _ (by omega), hr _ (by omega)⟩ (fun i hi => ⟨hr _ (by omega), hr _ (by omega), hr _ (by omega)⟩) hW
theorem offM.tr {μ μ' μ'' : Mm} (h : offM μ μ') (h' : offM μ' μ'') : offM μ μ'' := ⟨fun c j hc => (h'.1 c j hc).trans (h.1 c j hc), h'.2.trans h.2⟩
def wM (M : MM) (i : Nat) : Nat → Int32 := fun s => M (57 + 4 * i) (th M i ^^^ s)
def okM (M : MM) (a b i : Nat) : Nat → Bool := fun s => decide (nI s &&& ((nI (th M a) ||| nI (th M b)) ^^^ (-1)) = 0 ∧ M (58 + 4 * i) (th M i ^^^ s) = 0)
theorem l_find {a b i : Nat} (hi : i < 4) (hW : I_wish μ.1) (k : ∀ μ', offM μ μ' → chP μ'.1 (wM μ.1 i) (rkF (okM μ.1 a b i) (wM μ.1 i) 64) → Q none μ') : ∀ (f s : Nat), s + f = 64 → ∀ μ', offM μ μ' → chP μ'.1 (wM μ.1 i) (rkF (okM μ.1 a b i) (wM μ.1 i) s) → ∀ L : aL, aL_get L 0 = some (.ref 86) → aL_get L 1 = some (.int (nI i)) → aL_get L 2 = some (.int (nI (th μ.1 a) ||| nI (th μ.1 b))) → aL_get L 3 = some (.int (nI s)) → WP X mX12_findChoices 25 L [] μ' Q
  | 0, s, hs, μ', ho, hc, L, g0, g1, g2, g3 => by
    obtain rfl : s = 64 := by omega
    refine wp_iload_n (pc := 25) dX12_findChoices_25 (by first | rfl | assumption | (repeat first | assumption | rfl | refine aG_n ?_ rfl rfl)) ?_
    refine wp_bipush (pc := 26) (v := 64) dX12_findChoices_26 (by decide) ?_
    refine wp_icmp_ge (pc := 28) (tgt := 71) dX12_findChoices_28 rfl (fun _ => ?_) (fun q => absurd (nI_le (a := 64) (b := 64) (by omega) (by omega)) q)
    refine wp_vreturn (pc := 71) dX12_findChoices_71 rfl ?_
    exact k _ ho hc
  | f + 1, s, hs, μ', ho, hc, L, g0, g1, g2, g3 => by
    have hW' := ho.wish hW
    obtain ⟨r1, r2⟩ := rkF_p (okM μ.1 a b i) (wM μ.1 i) s
    have hr : ∀ c, ¬ (c = 103 ∨ c = 104 ∨ c = 86) → μ'.1 c = μ.1 c := fun c hc => funext fun j => ho.1 c j (by omega)
    have eth : th μ'.1 i = th μ.1 i := by unfold th; rw [hr 87 (by omega)]
    have hth := th_lt μ.1 i
    have e58 : μ'.1 (58 + 4 * i) = μ.1 (58 + 4 * i) := hr _ (by omega)
    have e57 : μ'.1 (57 + 4 * i) = μ.1 (57 + 4 * i) := hr _ (by omega)
    by_cases c1 : nI s &&& ((nI (th μ.1 a) ||| nI (th μ.1 b)) ^^^ (-1)) = 0
    · by_cases c2 : μ.1 (58 + 4 * i) (th μ.1 i ^^^ s) = 0
      · have eok : rkF (okM μ.1 a b i) (wM μ.1 i) (s + 1) = inF (wM μ.1 i) s (rkF (okM μ.1 a b i) (wM μ.1 i) s) := if_pos (decide_eq_true ⟨c1, c2⟩)
        refine wp_iload_n (pc := 25) dX12_findChoices_25 (by first | rfl | assumption | (repeat first | assumption | rfl | refine aG_n ?_ rfl rfl)) ?_
        refine wp_bipush (pc := 26) (v := 64) dX12_findChoices_26 (by decide) ?_
        refine wp_icmp_ge (pc := 28) (tgt := 71) dX12_findChoices_28 rfl (fun q => absurd q (nI_ge (a := s) (b := 64) (by omega) (by omega))) (fun _ => ?_)
        refine wp_iload_n (pc := 31) dX12_findChoices_31 (by first | rfl | assumption | (repeat first | assumption | rfl | refine aG_n ?_ rfl rfl)) ?_
        refine wp_iload_n (pc := 32) dX12_findChoices_32 (by first | rfl | assumption | (repeat first | assumption | rfl | refine aG_n ?_ rfl rfl)) ?_
        refine wp_iconst (pc := 33) (v := -1) dX12_findChoices_33 (by decide) ?_
        refine wp_ixor (pc := 34) dX12_findChoices_34 ?_
        refine wp_iand (pc := 35) dX12_findChoices_35 ?_
        refine wp_if_ne (pc := 36) (tgt := 65) dX12_findChoices_36 rfl (fun q => absurd c1 q) (fun _ => ?_)
        refine wp_aload_n (pc := 39) dX12_findChoices_39 (by first | rfl | assumption | (repeat first | assumption | rfl | refine aG_n ?_ rfl rfl)) ?_
        refine wp_iload_n (pc := 40) dX12_findChoices_40 (by first | rfl | assumption | (repeat first | assumption | rfl | refine aG_n ?_ rfl rfl)) ?_
        refine wp_iload_n (pc := 41) dX12_findChoices_41 (by first | rfl | assumption | (repeat first | assumption | rfl | refine aG_n ?_ rfl rfl)) ?_
        refine wp_cV (pc := 42) dX12_findChoices_42 lk_12_227 rfl (by decide) rfl (by first | rfl | assumption | exact sh_house (by omega) | exact sh_wish (by omega) | exact sh_wor (by omega) | exact sh_bar (by omega) | exact sh_term (by omega) | exact sh_sheet (by omega) | exact sh_items (by omega) | exact sh_sums (by omega)) rfl rfl (m_free hW' hi (show s < 64 by omega) rfl (fun _ => aK_i ?_) (fun q => absurd (by rw [e58, eth]; exact c2) q))
        refine wp_if_eq (pc := 45) (tgt := 65) dX12_findChoices_45 rfl (fun q => absurd q (by decide)) (fun _ => ?_)
        refine wp_aload_n (pc := 48) dX12_findChoices_48 (by first | rfl | assumption | (repeat first | assumption | rfl | refine aG_n ?_ rfl rfl)) ?_
        refine wp_iload_n (pc := 49) dX12_findChoices_49 (by first | rfl | assumption | (repeat first | assumption | rfl | refine aG_n ?_ rfl rfl)) ?_
        refine wp_aload_n (pc := 50) dX12_findChoices_50 (by first | rfl | assumption | (repeat first | assumption | rfl | refine aG_n ?_ rfl rfl)) ?_
        refine wp_iload_n (pc := 51) dX12_findChoices_51 (by first | rfl | assumption | (repeat first | assumption | rfl | refine aG_n ?_ rfl rfl)) ?_
        refine wp_aload_n (pc := 52) dX12_findChoices_52 (by first | rfl | assumption | (repeat first | assumption | rfl | refine aG_n ?_ rfl rfl)) ?_
        refine wp_iload_n (pc := 53) dX12_findChoices_53 (by first | rfl | assumption | (repeat first | assumption | rfl | refine aG_n ?_ rfl rfl)) ?_
        refine wp_cV (pc := 54) dX12_findChoices_54 lk_12_208 rfl (by decide) rfl (by first | rfl | assumption | exact sh_house (by omega) | exact sh_wish (by omega) | exact sh_wor (by omega) | exact sh_bar (by omega) | exact sh_term (by omega) | exact sh_sheet (by omega) | exact sh_items (by omega) | exact sh_sums (by omega)) rfl rfl ?_
        refine c_X12_thingsOf ?_
        rw [show tsF (μ'.1 87) i 6 = th μ.1 i from eth]
        refine aK_i ?_
        refine wp_iload_n (pc := 57) dX12_findChoices_57 (by first | rfl | assumption | (repeat first | assumption | rfl | refine aG_n ?_ rfl rfl)) ?_
        refine wp_ixor (pc := 58) dX12_findChoices_58 ?_
        refine wp_cV (pc := 59) dX12_findChoices_59 lk_12_200 rfl (by decide) rfl (by first | rfl | assumption | exact sh_house (by omega) | exact sh_wish (by omega) | exact sh_wor (by omega) | exact sh_bar (by omega) | exact sh_term (by omega) | exact sh_sheet (by omega) | exact sh_items (by omega) | exact sh_sums (by omega)) rfl rfl ?_
        refine m_worth hW' hi (x64 hth (show s < 64 by omega)) (xor6 hth (show s < 64 by omega)) ?_
        rw [e57, show μ.1 (57 + 4 * i) (th μ.1 i ^^^ s) = wM μ.1 i s from rfl]
        refine aK_i ?_
        refine wp_cV (pc := 62) dX12_findChoices_62 lk_12_281 rfl (by decide) rfl (by first | rfl | assumption | exact sh_house (by omega) | exact sh_wish (by omega) | exact sh_wor (by omega) | exact sh_bar (by omega) | exact sh_term (by omega) | exact sh_sheet (by omega) | exact sh_items (by omega) | exact sh_sums (by omega)) rfl rfl ?_
        refine c_X12_addChoice (show s < 64 by omega) (by omega) hc (fun μ2 o2 d2 => aK_v ?_)
        refine wp_iinc (pc := 65) dX12_findChoices_65 (by decide) (by first | rfl | assumption | (repeat first | assumption | rfl | refine aG_n ?_ rfl rfl)) rfl ?_
        refine wp_goto (pc := 68) (tgt := 25) dX12_findChoices_68 rfl ?_
        exact l_find hi hW k f (s + 1) (by omega) _ (ho.tr o2) (by rw [eok]; exact d2) _ (by first | rfl | assumption | (repeat first | assumption | rfl | refine aG_n ?_ rfl rfl)) (by first | rfl | assumption | (repeat first | assumption | rfl | refine aG_n ?_ rfl rfl)) (by first | rfl | assumption | (repeat first | assumption | rfl | refine aG_n ?_ rfl rfl)) (by rw [← nI_i1]; first | rfl | assumption | (repeat first | assumption | rfl | refine aG_n ?_ rfl rfl))
      · have eok : rkF (okM μ.1 a b i) (wM μ.1 i) (s + 1) = rkF (okM μ.1 a b i) (wM μ.1 i) s := if_neg (fun z => c2 (of_decide_eq_true z).2)
        refine wp_iload_n (pc := 25) dX12_findChoices_25 (by first | rfl | assumption | (repeat first | assumption | rfl | refine aG_n ?_ rfl rfl)) ?_
        refine wp_bipush (pc := 26) (v := 64) dX12_findChoices_26 (by decide) ?_
        refine wp_icmp_ge (pc := 28) (tgt := 71) dX12_findChoices_28 rfl (fun q => absurd q (nI_ge (a := s) (b := 64) (by omega) (by omega))) (fun _ => ?_)
        refine wp_iload_n (pc := 31) dX12_findChoices_31 (by first | rfl | assumption | (repeat first | assumption | rfl | refine aG_n ?_ rfl rfl)) ?_
        refine wp_iload_n (pc := 32) dX12_findChoices_32 (by first | rfl | assumption | (repeat first | assumption | rfl | refine aG_n ?_ rfl rfl)) ?_
        refine wp_iconst (pc := 33) (v := -1) dX12_findChoices_33 (by decide) ?_
        refine wp_ixor (pc := 34) dX12_findChoices_34 ?_
        refine wp_iand (pc := 35) dX12_findChoices_35 ?_
        refine wp_if_ne (pc := 36) (tgt := 65) dX12_findChoices_36 rfl (fun q => absurd c1 q) (fun _ => ?_)
        refine wp_aload_n (pc := 39) dX12_findChoices_39 (by first | rfl | assumption | (repeat first | assumption | rfl | refine aG_n ?_ rfl rfl)) ?_
        refine wp_iload_n (pc := 40) dX12_findChoices_40 (by first | rfl | assumption | (repeat first | assumption | rfl | refine aG_n ?_ rfl rfl)) ?_
        refine wp_iload_n (pc := 41) dX12_findChoices_41 (by first | rfl | assumption | (repeat first | assumption | rfl | refine aG_n ?_ rfl rfl)) ?_
        refine wp_cV (pc := 42) dX12_findChoices_42 lk_12_227 rfl (by decide) rfl (by first | rfl | assumption | exact sh_house (by omega) | exact sh_wish (by omega) | exact sh_wor (by omega) | exact sh_bar (by omega) | exact sh_term (by omega) | exact sh_sheet (by omega) | exact sh_items (by omega) | exact sh_sums (by omega)) rfl rfl (m_free hW' hi (show s < 64 by omega) rfl (fun q => absurd (by rw [e58, eth] at q; exact q) c2) (fun _ => aK_i ?_))
        refine wp_if_eq (pc := 45) (tgt := 65) dX12_findChoices_45 rfl (fun _ => ?_) (fun q => absurd rfl q)
        refine wp_iinc (pc := 65) dX12_findChoices_65 (by decide) (by first | rfl | assumption | (repeat first | assumption | rfl | refine aG_n ?_ rfl rfl)) rfl ?_
        refine wp_goto (pc := 68) (tgt := 25) dX12_findChoices_68 rfl ?_
        exact l_find hi hW k f (s + 1) (by omega) _ ho (by rw [eok]; exact hc) _ (by first | rfl | assumption | (repeat first | assumption | rfl | refine aG_n ?_ rfl rfl)) (by first | rfl | assumption | (repeat first | assumption | rfl | refine aG_n ?_ rfl rfl)) (by first | rfl | assumption | (repeat first | assumption | rfl | refine aG_n ?_ rfl rfl)) (by rw [← nI_i1]; first | rfl | assumption | (repeat first | assumption | rfl | refine aG_n ?_ rfl rfl))
    · have eok : rkF (okM μ.1 a b i) (wM μ.1 i) (s + 1) = rkF (okM μ.1 a b i) (wM μ.1 i) s := if_neg (fun z => c1 (of_decide_eq_true z).1)
      refine wp_iload_n (pc := 25) dX12_findChoices_25 (by first | rfl | assumption | (repeat first | assumption | rfl | refine aG_n ?_ rfl rfl)) ?_
      refine wp_bipush (pc := 26) (v := 64) dX12_findChoices_26 (by decide) ?_
      refine wp_icmp_ge (pc := 28) (tgt := 71) dX12_findChoices_28 rfl (fun q => absurd q (nI_ge (a := s) (b := 64) (by omega) (by omega))) (fun _ => ?_)
      refine wp_iload_n (pc := 31) dX12_findChoices_31 (by first | rfl | assumption | (repeat first | assumption | rfl | refine aG_n ?_ rfl rfl)) ?_
      refine wp_iload_n (pc := 32) dX12_findChoices_32 (by first | rfl | assumption | (repeat first | assumption | rfl | refine aG_n ?_ rfl rfl)) ?_
      refine wp_iconst (pc := 33) (v := -1) dX12_findChoices_33 (by decide) ?_
      refine wp_ixor (pc := 34) dX12_findChoices_34 ?_
      refine wp_iand (pc := 35) dX12_findChoices_35 ?_
      refine wp_if_ne (pc := 36) (tgt := 65) dX12_findChoices_36 rfl (fun _ => ?_) (fun q => absurd q c1)
      refine wp_iinc (pc := 65) dX12_findChoices_65 (by decide) (by first | rfl | assumption | (repeat first | assumption | rfl | refine aG_n ?_ rfl rfl)) rfl ?_
      refine wp_goto (pc := 68) (tgt := 25) dX12_findChoices_68 rfl ?_
      exact l_find hi hW k f (s + 1) (by omega) _ ho (by rw [eok]; exact hc) _ (by first | rfl | assumption | (repeat first | assumption | rfl | refine aG_n ?_ rfl rfl)) (by first | rfl | assumption | (repeat first | assumption | rfl | refine aG_n ?_ rfl rfl)) (by first | rfl | assumption | (repeat first | assumption | rfl | refine aG_n ?_ rfl rfl)) (by rw [← nI_i1]; first | rfl | assumption | (repeat first | assumption | rfl | refine aG_n ?_ rfl rfl))
theorem c_X12_findChoices {a b i : Nat} (hi : i < 4) (hW : I_wish μ.1) (h16 : μ.1 86 16 = nI a) (h17 : μ.1 86 17 = nI b) (k : ∀ μ', offM μ μ' → chP μ'.1 (wM μ.1 i) (rkF (okM μ.1 a b i) (wM μ.1 i) 64) → Q none μ') : WP X mX12_findChoices 0 (lv_args 0 [.ref 86, .int (nI i)]) [] μ Q := by
  refine wp_aload_n (pc := 0) dX12_findChoices_0 (by first | rfl | assumption | (repeat first | assumption | rfl | refine aG_n ?_ rfl rfl)) ?_
  refine wp_aload_n (pc := 1) dX12_findChoices_1 (by first | rfl | assumption | (repeat first | assumption | rfl | refine aG_n ?_ rfl rfl)) ?_
  refine wp_getI (pc := 2) dX12_findChoices_2 fl_12_235 (by first | rfl | assumption | exact sh_house (by omega) | exact sh_wish (by omega) | exact sh_wor (by omega) | exact sh_bar (by omega) | exact sh_term (by omega) | exact sh_sheet (by omega) | exact sh_items (by omega) | exact sh_sums (by omega)) rfl ?_
  refine wp_cV (pc := 5) dX12_findChoices_5 lk_12_208 rfl (by decide) rfl (by first | rfl | assumption | exact sh_house (by omega) | exact sh_wish (by omega) | exact sh_wor (by omega) | exact sh_bar (by omega) | exact sh_term (by omega) | exact sh_sheet (by omega) | exact sh_items (by omega) | exact sh_sums (by omega)) rfl rfl ?_
  rw [h16]
  refine c_X12_thingsOf (aK_i ?_)
  refine wp_aload_n (pc := 8) dX12_findChoices_8 (by first | rfl | assumption | (repeat first | assumption | rfl | refine aG_n ?_ rfl rfl)) ?_
  refine wp_aload_n (pc := 9) dX12_findChoices_9 (by first | rfl | assumption | (repeat first | assumption | rfl | refine aG_n ?_ rfl rfl)) ?_
  refine wp_getI (pc := 10) dX12_findChoices_10 fl_12_238 (by first | rfl | assumption | exact sh_house (by omega) | exact sh_wish (by omega) | exact sh_wor (by omega) | exact sh_bar (by omega) | exact sh_term (by omega) | exact sh_sheet (by omega) | exact sh_items (by omega) | exact sh_sums (by omega)) rfl ?_
  refine wp_cV (pc := 13) dX12_findChoices_13 lk_12_208 rfl (by decide) rfl (by first | rfl | assumption | exact sh_house (by omega) | exact sh_wish (by omega) | exact sh_wor (by omega) | exact sh_bar (by omega) | exact sh_term (by omega) | exact sh_sheet (by omega) | exact sh_items (by omega) | exact sh_sums (by omega)) rfl rfl ?_
  rw [h17]
  refine c_X12_thingsOf (aK_i ?_)
  refine wp_ior (pc := 16) dX12_findChoices_16 ?_
  refine wp_istore_n (pc := 17) dX12_findChoices_17 (by decide) ?_
  refine wp_aload_n (pc := 18) dX12_findChoices_18 (by first | rfl | assumption | (repeat first | assumption | rfl | refine aG_n ?_ rfl rfl)) ?_
  refine wp_iconst (pc := 19) (v := 0) dX12_findChoices_19 (by decide) ?_
  refine wp_putI (pc := 20) dX12_findChoices_20 fl_12_278 (by first | rfl | assumption | exact sh_house (by omega) | exact sh_wish (by omega) | exact sh_wor (by omega) | exact sh_bar (by omega) | exact sh_term (by omega) | exact sh_sheet (by omega) | exact sh_items (by omega) | exact sh_sums (by omega)) rfl rfl rfl ?_
  refine wp_iconst (pc := 23) (v := 0) dX12_findChoices_23 (by decide) ?_
  refine wp_istore_n (pc := 24) dX12_findChoices_24 (by decide) ?_
  exact l_find (a := a) (b := b) hi hW k 64 0 (by omega) (up2 μ.1 86 29 0, μ.2) ⟨fun c j hc => up2_p (by omega), rfl⟩ ⟨by dsimp only; exact up2_at, fun j hj => absurd hj (by simp [rkF])⟩ _ (by first | rfl | assumption | (repeat first | assumption | rfl | refine aG_n ?_ rfl rfl)) (by first | rfl | assumption | (repeat first | assumption | rfl | refine aG_n ?_ rfl rfl)) (by first | rfl | assumption | (repeat first | assumption | rfl | refine aG_n ?_ rfl rfl)) (by first | rfl | assumption | (repeat first | assumption | rfl | refine aG_n ?_ rfl rfl))
end CHOICE

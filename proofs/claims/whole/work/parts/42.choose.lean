def lvV (S D A : Int32) (k : Nat) : Int32 := if S - nI k * D < A then A else S - nI k * D
theorem lvV_ge (S D A : Int32) (k : Nat) : A ≤ lvV S D A k := by
  unfold lvV
  split
  · rw [i_le]; omega
  · exact i_nlt (by assumption)
/-- a WORD chosen: YES if Y; else what is wanted most, if its price may be asked; O: an OFFER stands ahead -/
def chR (Y O : Prop) (q : (Nat → Nat) × Nat) (kk : Nat) (pf : Nat → Int32) (kd st pr : Int32) : Prop :=
  (Y ∧ kd = 3 ∧ st = 0 ∧ pr = 0) ∨ (¬ Y ∧ (q.2 = 0 ∨ (¬ q.2 = 0 ∧ ¬ inR (pf (q.1 (kk % q.2))) (-999) 999)) ∧ kd = 4 ∧ st = 0 ∧ pr = 0) ∨ (¬ Y ∧ ¬ q.2 = 0 ∧ inR (pf (q.1 (kk % q.2))) (-999) 999 ∧ ((O ∧ kd = 2) ∨ (¬ O ∧ kd = 1)) ∧ st = nI (q.1 (kk % q.2)) ∧ pr = pf (q.1 (kk % q.2)))
theorem chR_u {Y O : Prop} {q : (Nat → Nat) × Nat} {kk : Nat} {pf : Nat → Int32} {kd st pr kd' st' pr' : Int32} (h : chR Y O q kk pf kd st pr) (h' : chR Y O q kk pf kd' st' pr') : kd' = kd ∧ st' = st ∧ pr' = pr := by
  rcases h with ⟨y, rfl, rfl, rfl⟩ | ⟨y, n, rfl, rfl, rfl⟩ | ⟨y, n, i, o, rfl, rfl⟩ <;> rcases h' with ⟨y', rfl, rfl, rfl⟩ | ⟨y', n', rfl, rfl, rfl⟩ | ⟨y', n', i', o', rfl, rfl⟩
  · exact ⟨rfl, rfl, rfl⟩
  · exact absurd y y'
  · exact absurd y y'
  · exact absurd y' y
  · exact ⟨rfl, rfl, rfl⟩
  · exact absurd n (fun z => z.elim n' (fun w => w.2 i'))
  · exact absurd y' y
  · exact absurd n' (fun z => z.elim n (fun w => w.2 i))
  · rcases o with ⟨o, rfl⟩ | ⟨o, rfl⟩ <;> rcases o' with ⟨o', rfl⟩ | ⟨o', rfl⟩
    · exact ⟨rfl, rfl, rfl⟩
    · exact absurd o o'
    · exact absurd o' o
    · exact ⟨rfl, rfl, rfl⟩
theorem suP_c {M M' N N' : MM} {P n : Nat} {t wv : Nat → Nat} {l : Int32} (h1 : M' P = M P) (h2 : ∀ d, d < 2 → M' (wv d + 1) = M (wv d + 1) ∧ M' (wv d + 2) = M (wv d + 2)) (h3 : N' 100 = N 100) (h4 : N' 101 = N 101) (h5 : N' 102 = N 102) : suP M' N' P t wv n l ↔ suP M N P t wv n l := by
  unfold suP goB opB gnp gnd isOf wu
  rw [h1, (h2 0 (by omega)).2, (h2 1 (by omega)).2, (h2 (n % 2) (Nat.mod_lt _ (by decide))).1, h3, h4, h5]
section CHOOSE
variable {X : aX} {μ : Mm} {Q : Option Value → Mm → Prop} {P n w i : Nat} {t wv : Nat → Nat} {N : MM}
theorem c_X1_levelAt {k : Nat} (hi : i < 4) (kk : Q (some (.int (lvV (μ.1 (55 + 4 * i) 3) (μ.1 (55 + 4 * i) 4) (μ.1 (55 + 4 * i) 2) k))) μ) : WP X mX1_levelAt 0 (lv_args 0 [.ref (55 + 4 * i), .int (nI k)]) [] μ Q := by
  refine wp_aload_n (pc := 0) dX1_levelAt_0 (by first | rfl | assumption | (repeat first | assumption | rfl | refine aG_n ?_ rfl rfl)) ?_
  refine wp_getI (pc := 1) dX1_levelAt_1 fl_1_13 (by first | rfl | assumption | exact sh_house (by omega) | exact sh_wish (by omega) | exact sh_wor (by omega) | exact sh_bar (by omega) | exact sh_term (by omega) | exact sh_sheet (by omega) | exact sh_items (by omega) | exact sh_sums (by omega)) rfl ?_
  refine wp_iload_n (pc := 4) dX1_levelAt_4 (by first | rfl | assumption | (repeat first | assumption | rfl | refine aG_n ?_ rfl rfl)) ?_
  refine wp_aload_n (pc := 5) dX1_levelAt_5 (by first | rfl | assumption | (repeat first | assumption | rfl | refine aG_n ?_ rfl rfl)) ?_
  refine wp_getI (pc := 6) dX1_levelAt_6 fl_1_16 (by first | rfl | assumption | exact sh_house (by omega) | exact sh_wish (by omega) | exact sh_wor (by omega) | exact sh_bar (by omega) | exact sh_term (by omega) | exact sh_sheet (by omega) | exact sh_items (by omega) | exact sh_sums (by omega)) rfl ?_
  refine wp_imul (pc := 9) dX1_levelAt_9 ?_
  refine wp_isub (pc := 10) dX1_levelAt_10 ?_
  refine wp_aload_n (pc := 11) dX1_levelAt_11 (by first | rfl | assumption | (repeat first | assumption | rfl | refine aG_n ?_ rfl rfl)) ?_
  refine wp_getI (pc := 12) dX1_levelAt_12 fl_1_26 (by first | rfl | assumption | exact sh_house (by omega) | exact sh_wish (by omega) | exact sh_wor (by omega) | exact sh_bar (by omega) | exact sh_term (by omega) | exact sh_sheet (by omega) | exact sh_items (by omega) | exact sh_sums (by omega)) rfl ?_
  refine wp_max (pc := 15) dX1_levelAt_15 lk_1_29 rfl (by decide) (by decide) (by decide) ?_
  refine wp_ireturn (pc := 18) dX1_levelAt_18 rfl (by first | rfl | decide | assumption) ?_
  exact kk
theorem c_X12_levelOf {k : Nat} (hi : i < 4) (kk : Q (some (.int (lvV (μ.1 90 i) (μ.1 91 i) (μ.1 89 i) k))) μ) : WP X mX12_levelOf 0 (lv_args 0 [.ref 86, .int (nI i), .int (nI k)]) [] μ Q := by
  have ci : (nI i).toNatClampNeg = i := nI_clamp (by omega)
  unfold lvV at kk
  by_cases c : μ.1 90 i - nI k * μ.1 91 i < μ.1 89 i
  · rw [if_pos c] at kk
    refine wp_aload_n (pc := 0) dX12_levelOf_0 (by first | rfl | assumption | (repeat first | assumption | rfl | refine aG_n ?_ rfl rfl)) ?_
    refine wp_getR (pc := 1) dX12_levelOf_1 fl_12_19 (by first | rfl | assumption | exact sh_house (by omega) | exact sh_wish (by omega) | exact sh_wor (by omega) | exact sh_bar (by omega) | exact sh_term (by omega) | exact sh_sheet (by omega) | exact sh_items (by omega) | exact sh_sums (by omega)) rfl ?_
    refine wp_iload_n (pc := 4) dX12_levelOf_4 (by first | rfl | assumption | (repeat first | assumption | rfl | refine aG_n ?_ rfl rfl)) ?_
    refine wp_iald (pc := 5) dX12_levelOf_5 (by first | rfl | assumption | exact sh_house (by omega) | exact sh_wish (by omega) | exact sh_wor (by omega) | exact sh_bar (by omega) | exact sh_term (by omega) | exact sh_sheet (by omega) | exact sh_items (by omega) | exact sh_sums (by omega)) (vp_in_nI (by omega) (by decide)) ?_
    refine wp_iload_n (pc := 6) dX12_levelOf_6 (by first | rfl | assumption | (repeat first | assumption | rfl | refine aG_n ?_ rfl rfl)) ?_
    refine wp_aload_n (pc := 7) dX12_levelOf_7 (by first | rfl | assumption | (repeat first | assumption | rfl | refine aG_n ?_ rfl rfl)) ?_
    refine wp_getR (pc := 8) dX12_levelOf_8 fl_12_22 (by first | rfl | assumption | exact sh_house (by omega) | exact sh_wish (by omega) | exact sh_wor (by omega) | exact sh_bar (by omega) | exact sh_term (by omega) | exact sh_sheet (by omega) | exact sh_items (by omega) | exact sh_sums (by omega)) rfl ?_
    refine wp_iload_n (pc := 11) dX12_levelOf_11 (by first | rfl | assumption | (repeat first | assumption | rfl | refine aG_n ?_ rfl rfl)) ?_
    refine wp_iald (pc := 12) dX12_levelOf_12 (by first | rfl | assumption | exact sh_house (by omega) | exact sh_wish (by omega) | exact sh_wor (by omega) | exact sh_bar (by omega) | exact sh_term (by omega) | exact sh_sheet (by omega) | exact sh_items (by omega) | exact sh_sums (by omega)) (vp_in_nI (by omega) (by decide)) ?_
    refine wp_imul (pc := 13) dX12_levelOf_13 ?_
    refine wp_isub (pc := 14) dX12_levelOf_14 ?_
    refine wp_istore_n (pc := 15) dX12_levelOf_15 (by decide) ?_
    refine wp_iload_n (pc := 16) dX12_levelOf_16 (by first | rfl | assumption | (repeat first | assumption | rfl | refine aG_n ?_ rfl rfl)) ?_
    refine wp_aload_n (pc := 17) dX12_levelOf_17 (by first | rfl | assumption | (repeat first | assumption | rfl | refine aG_n ?_ rfl rfl)) ?_
    refine wp_getR (pc := 18) dX12_levelOf_18 fl_12_16 (by first | rfl | assumption | exact sh_house (by omega) | exact sh_wish (by omega) | exact sh_wor (by omega) | exact sh_bar (by omega) | exact sh_term (by omega) | exact sh_sheet (by omega) | exact sh_items (by omega) | exact sh_sums (by omega)) rfl ?_
    refine wp_iload_n (pc := 21) dX12_levelOf_21 (by first | rfl | assumption | (repeat first | assumption | rfl | refine aG_n ?_ rfl rfl)) ?_
    refine wp_iald (pc := 22) dX12_levelOf_22 (by first | rfl | assumption | exact sh_house (by omega) | exact sh_wish (by omega) | exact sh_wor (by omega) | exact sh_bar (by omega) | exact sh_term (by omega) | exact sh_sheet (by omega) | exact sh_items (by omega) | exact sh_sums (by omega)) (vp_in_nI (by omega) (by decide)) ?_
    refine wp_icmp_ge (pc := 23) (tgt := 35) dX12_levelOf_23 rfl (fun q => absurd q (by rw [ci]; exact fun z => i_nle c z)) (fun _ => ?_)
    refine wp_aload_n (pc := 26) dX12_levelOf_26 (by first | rfl | assumption | (repeat first | assumption | rfl | refine aG_n ?_ rfl rfl)) ?_
    refine wp_getR (pc := 27) dX12_levelOf_27 fl_12_16 (by first | rfl | assumption | exact sh_house (by omega) | exact sh_wish (by omega) | exact sh_wor (by omega) | exact sh_bar (by omega) | exact sh_term (by omega) | exact sh_sheet (by omega) | exact sh_items (by omega) | exact sh_sums (by omega)) rfl ?_
    refine wp_iload_n (pc := 30) dX12_levelOf_30 (by first | rfl | assumption | (repeat first | assumption | rfl | refine aG_n ?_ rfl rfl)) ?_
    refine wp_iald (pc := 31) dX12_levelOf_31 (by first | rfl | assumption | exact sh_house (by omega) | exact sh_wish (by omega) | exact sh_wor (by omega) | exact sh_bar (by omega) | exact sh_term (by omega) | exact sh_sheet (by omega) | exact sh_items (by omega) | exact sh_sums (by omega)) (vp_in_nI (by omega) (by decide)) ?_
    refine wp_goto (pc := 32) (tgt := 36) dX12_levelOf_32 rfl ?_
    refine wp_ireturn (pc := 36) dX12_levelOf_36 rfl (by first | rfl | decide | assumption) ?_
    rw [ci]; exact kk
  · rw [if_neg c] at kk
    refine wp_aload_n (pc := 0) dX12_levelOf_0 (by first | rfl | assumption | (repeat first | assumption | rfl | refine aG_n ?_ rfl rfl)) ?_
    refine wp_getR (pc := 1) dX12_levelOf_1 fl_12_19 (by first | rfl | assumption | exact sh_house (by omega) | exact sh_wish (by omega) | exact sh_wor (by omega) | exact sh_bar (by omega) | exact sh_term (by omega) | exact sh_sheet (by omega) | exact sh_items (by omega) | exact sh_sums (by omega)) rfl ?_
    refine wp_iload_n (pc := 4) dX12_levelOf_4 (by first | rfl | assumption | (repeat first | assumption | rfl | refine aG_n ?_ rfl rfl)) ?_
    refine wp_iald (pc := 5) dX12_levelOf_5 (by first | rfl | assumption | exact sh_house (by omega) | exact sh_wish (by omega) | exact sh_wor (by omega) | exact sh_bar (by omega) | exact sh_term (by omega) | exact sh_sheet (by omega) | exact sh_items (by omega) | exact sh_sums (by omega)) (vp_in_nI (by omega) (by decide)) ?_
    refine wp_iload_n (pc := 6) dX12_levelOf_6 (by first | rfl | assumption | (repeat first | assumption | rfl | refine aG_n ?_ rfl rfl)) ?_
    refine wp_aload_n (pc := 7) dX12_levelOf_7 (by first | rfl | assumption | (repeat first | assumption | rfl | refine aG_n ?_ rfl rfl)) ?_
    refine wp_getR (pc := 8) dX12_levelOf_8 fl_12_22 (by first | rfl | assumption | exact sh_house (by omega) | exact sh_wish (by omega) | exact sh_wor (by omega) | exact sh_bar (by omega) | exact sh_term (by omega) | exact sh_sheet (by omega) | exact sh_items (by omega) | exact sh_sums (by omega)) rfl ?_
    refine wp_iload_n (pc := 11) dX12_levelOf_11 (by first | rfl | assumption | (repeat first | assumption | rfl | refine aG_n ?_ rfl rfl)) ?_
    refine wp_iald (pc := 12) dX12_levelOf_12 (by first | rfl | assumption | exact sh_house (by omega) | exact sh_wish (by omega) | exact sh_wor (by omega) | exact sh_bar (by omega) | exact sh_term (by omega) | exact sh_sheet (by omega) | exact sh_items (by omega) | exact sh_sums (by omega)) (vp_in_nI (by omega) (by decide)) ?_
    refine wp_imul (pc := 13) dX12_levelOf_13 ?_
    refine wp_isub (pc := 14) dX12_levelOf_14 ?_
    refine wp_istore_n (pc := 15) dX12_levelOf_15 (by decide) ?_
    refine wp_iload_n (pc := 16) dX12_levelOf_16 (by first | rfl | assumption | (repeat first | assumption | rfl | refine aG_n ?_ rfl rfl)) ?_
    refine wp_aload_n (pc := 17) dX12_levelOf_17 (by first | rfl | assumption | (repeat first | assumption | rfl | refine aG_n ?_ rfl rfl)) ?_
    refine wp_getR (pc := 18) dX12_levelOf_18 fl_12_16 (by first | rfl | assumption | exact sh_house (by omega) | exact sh_wish (by omega) | exact sh_wor (by omega) | exact sh_bar (by omega) | exact sh_term (by omega) | exact sh_sheet (by omega) | exact sh_items (by omega) | exact sh_sums (by omega)) rfl ?_
    refine wp_iload_n (pc := 21) dX12_levelOf_21 (by first | rfl | assumption | (repeat first | assumption | rfl | refine aG_n ?_ rfl rfl)) ?_
    refine wp_iald (pc := 22) dX12_levelOf_22 (by first | rfl | assumption | exact sh_house (by omega) | exact sh_wish (by omega) | exact sh_wor (by omega) | exact sh_bar (by omega) | exact sh_term (by omega) | exact sh_sheet (by omega) | exact sh_items (by omega) | exact sh_sums (by omega)) (vp_in_nI (by omega) (by decide)) ?_
    refine wp_icmp_ge (pc := 23) (tgt := 35) dX12_levelOf_23 rfl (fun _ => ?_) (fun q => absurd (by rw [ci]; exact i_nlt c) q)
    refine wp_iload_n (pc := 35) dX12_levelOf_35 (by first | rfl | assumption | (repeat first | assumption | rfl | refine aG_n ?_ rfl rfl)) ?_
    refine wp_ireturn (pc := 36) dX12_levelOf_36 rfl (by first | rfl | decide | assumption) ?_
    rw [ci]; exact kk
def pfC (M : MM) (t wv : Nat → Nat) (d : Nat) (lv : Int32) : Nat → Int32 := fun s => if d = 0 then gnd M t wv d s - lv else -(gnd M t wv d s - lv)
theorem c_X3_choose {q : (Nat → Nat) × Nat} (hi : i < 4) (hPr : Pr μ P t wv) (hN : PrN P wv) (hw : w ≤ 20) (h73 : μ.1 73 3 = nI w) (hk : ∀ q, q < 20 → μ.1 75 q = N 100 q ∧ μ.1 76 q = N 101 q ∧ μ.1 77 q = N 102 q) (hof : ∀ q, q < w → isOf N q → N 101 q = nI (wu N q) ∧ wu N q < 64) (hn : n ≤ w) (hq : q.2 ≤ 64) (hq2 : ∀ j, j < q.2 → q.1 j < 64) (h29 : μ.1 29 4 = nI q.2) (h30 : ∀ j, j < q.2 → μ.1 30 j = nI (q.1 j)) (k : ∀ μ' kd st pr, (∀ c, c ≠ 29 → μ'.1 c = μ.1 c) → μ'.2 = μ.2 → μ'.1 29 4 = nI q.2 → μ'.1 29 0 = kd → μ'.1 29 1 = st → μ'.1 29 2 = pr → chR (suP μ.1 N P t wv n (lvV (μ.1 (55 + 4 * i) 3) (μ.1 (55 + 4 * i) 4) (μ.1 (55 + 4 * i) 2) (n / 2))) (0 < n ∧ isOf N (n - 1)) q (n / 2) (pfC μ.1 t wv (n % 2) (lvV (μ.1 (55 + 4 * i) 3) (μ.1 (55 + 4 * i) 4) (μ.1 (55 + 4 * i) 2) (n / 2))) kd st pr → Q none μ') : WP X mX3_choose 0 (lv_args 0 [.ref 29, .ref P, .ref (55 + 4 * i), .ref 73, .int (nI n)]) [] μ Q := by
  have hP := hPr.1
  have hP31 := hN.1
  have hwv : ∀ d, d < 2 → wv d + 1 ≠ 29 ∧ wv d + 2 ≠ 29 := fun d hd => by have := hN.2 d hd; omega
  have ed : nI n / 2 = nI (n / 2) := pk_div (d := 2) (by omega) (by decide) (by decide)
  have hd2 : n % 2 < 2 := Nat.mod_lt _ (by decide)
  generalize hlv : lvV (μ.1 (55 + 4 * i) 3) (μ.1 (55 + 4 * i) 4) (μ.1 (55 + 4 * i) 2) (n / 2) = lv at *
  have hPr1 : Pr (up2 (up2 μ.1 29 1 0) 29 2 0, μ.2) P t wv := Pr_s hPr (by dsimp only; rw [up2_ne (by omega), up2_ne (by omega)]) rfl (fun d hd => by dsimp only; rw [up2_ne (hwv d hd).2, up2_ne (hwv d hd).2])
  have hPr2 : Pr (up2 (up2 (up2 μ.1 29 1 0) 29 2 0) 29 0 4, μ.2) P t wv := Pr_s hPr (by dsimp only; rw [up2_ne (by omega), up2_ne (by omega), up2_ne (by omega)]) rfl (fun d hd => by dsimp only; rw [up2_ne (hwv d hd).2, up2_ne (hwv d hd).2, up2_ne (hwv d hd).2])
  have esu : suP (up2 (up2 μ.1 29 1 0) 29 2 0) N P t wv n lv ↔ suP μ.1 N P t wv n lv := suP_c (by rw [up2_ne (by omega), up2_ne (by omega)]) (fun d hd => ⟨by rw [up2_ne (hwv d hd).1, up2_ne (hwv d hd).1], by rw [up2_ne (hwv d hd).2, up2_ne (hwv d hd).2]⟩) rfl rfl rfl
  have hk1 : ∀ q, q < 20 → up2 (up2 μ.1 29 1 0) 29 2 0 75 q = N 100 q ∧ up2 (up2 μ.1 29 1 0) 29 2 0 76 q = N 101 q ∧ up2 (up2 μ.1 29 1 0) 29 2 0 77 q = N 102 q := fun q hq => by
    simp (disch := omega) only [up2_ne]; exact hk q hq
  have h731 : up2 (up2 μ.1 29 1 0) 29 2 0 73 3 = nI w := by simp (disch := omega) only [up2_ne]; exact h73
  have h732 : up2 (up2 (up2 μ.1 29 1 0) 29 2 0) 29 0 4 73 3 = nI w := by simp (disch := omega) only [up2_ne]; exact h73
  have hk2 : ∀ q, q < 20 → up2 (up2 (up2 μ.1 29 1 0) 29 2 0) 29 0 4 75 q = N 100 q := fun q hq => by
    simp (disch := omega) only [up2_ne]; exact (hk q hq).1
  have h294 : up2 (up2 (up2 μ.1 29 1 0) 29 2 0) 29 0 4 29 4 = nI q.2 := by simp (disch := omega) only [up2_p]; exact h29
  by_cases c1 : suP μ.1 N P t wv n lv
  · refine wp_iload (pc := 0) dX3_choose_0 (by first | rfl | assumption | (repeat first | assumption | rfl | refine aG_n ?_ rfl rfl)) ?_
    refine wp_iconst (pc := 2) (v := 2) dX3_choose_2 (by decide) ?_
    refine wp_idiv (pc := 3) dX3_choose_3 (by decide) ?_
    refine wp_istore (pc := 4) dX3_choose_4 (by decide) ?_
    refine wp_aload_n (pc := 6) dX3_choose_6 (by first | rfl | assumption | (repeat first | assumption | rfl | refine aG_n ?_ rfl rfl)) ?_
    refine wp_iload (pc := 7) dX3_choose_7 (by first | rfl | assumption | (repeat first | assumption | rfl | refine aG_n ?_ rfl rfl)) ?_
    refine wp_cV (pc := 9) dX3_choose_9 lk_3_37 rfl (by decide) rfl (by first | rfl | assumption | exact sh_house (by omega) | exact sh_wish (by omega) | exact sh_wor (by omega) | exact sh_bar (by omega) | exact sh_term (by omega) | exact sh_sheet (by omega) | exact sh_items (by omega) | exact sh_sums (by omega)) rfl rfl ?_
    rw [ed]
    refine c_X1_levelAt hi ?_
    rw [hlv]
    refine aK_i ?_
    refine wp_istore (pc := 12) dX3_choose_12 (by decide) ?_
    refine wp_aload_n (pc := 14) dX3_choose_14 (by first | rfl | assumption | (repeat first | assumption | rfl | refine aG_n ?_ rfl rfl)) ?_
    refine wp_iconst (pc := 15) (v := 0) dX3_choose_15 (by decide) ?_
    refine wp_putI (pc := 16) dX3_choose_16 fl_3_43 (by first | rfl | assumption | exact sh_house (by omega) | exact sh_wish (by omega) | exact sh_wor (by omega) | exact sh_bar (by omega) | exact sh_term (by omega) | exact sh_sheet (by omega) | exact sh_items (by omega) | exact sh_sums (by omega)) rfl rfl rfl ?_
    refine wp_aload_n (pc := 19) dX3_choose_19 (by first | rfl | assumption | (repeat first | assumption | rfl | refine aG_n ?_ rfl rfl)) ?_
    refine wp_iconst (pc := 20) (v := 0) dX3_choose_20 (by decide) ?_
    refine wp_putI (pc := 21) dX3_choose_21 fl_3_46 (by first | rfl | assumption | exact sh_house (by omega) | exact sh_wish (by omega) | exact sh_wor (by omega) | exact sh_bar (by omega) | exact sh_term (by omega) | exact sh_sheet (by omega) | exact sh_items (by omega) | exact sh_sums (by omega)) rfl rfl rfl ?_
    refine wp_aload_n (pc := 24) dX3_choose_24 (by first | rfl | assumption | (repeat first | assumption | rfl | refine aG_n ?_ rfl rfl)) ?_
    refine wp_aload_n (pc := 25) dX3_choose_25 (by first | rfl | assumption | (repeat first | assumption | rfl | refine aG_n ?_ rfl rfl)) ?_
    refine wp_iload (pc := 26) dX3_choose_26 (by first | rfl | assumption | (repeat first | assumption | rfl | refine aG_n ?_ rfl rfl)) ?_
    refine wp_iload (pc := 28) dX3_choose_28 (by first | rfl | assumption | (repeat first | assumption | rfl | refine aG_n ?_ rfl rfl)) ?_
    refine wp_cV (pc := 30) dX3_choose_30 lk_3_49 rfl (by decide) rfl (by first | rfl | assumption | exact sh_house (by omega) | exact sh_wish (by omega) | exact sh_wor (by omega) | exact sh_bar (by omega) | exact sh_term (by omega) | exact sh_sheet (by omega) | exact sh_items (by omega) | exact sh_sums (by omega)) rfl rfl (n_suits (N := N) hPr1 hw h731 hk1 hof hn (fun _ => aK_i ?_) (fun z => absurd (esu.mpr c1) z))
    refine wp_if_eq (pc := 33) (tgt := 42) dX3_choose_33 rfl (fun q => absurd q (by decide)) (fun _ => ?_)
    refine wp_aload_n (pc := 36) dX3_choose_36 (by first | rfl | assumption | (repeat first | assumption | rfl | refine aG_n ?_ rfl rfl)) ?_
    refine wp_iconst (pc := 37) (v := 3) dX3_choose_37 (by decide) ?_
    refine wp_putI (pc := 38) dX3_choose_38 fl_3_55 (by first | rfl | assumption | exact sh_house (by omega) | exact sh_wish (by omega) | exact sh_wor (by omega) | exact sh_bar (by omega) | exact sh_term (by omega) | exact sh_sheet (by omega) | exact sh_items (by omega) | exact sh_sums (by omega)) rfl rfl rfl ?_
    refine wp_vreturn (pc := 41) dX3_choose_41 rfl ?_
    skip
    refine k _ 3 0 0 (fun c hc => ?_) rfl ?_ (by dsimp only; exact up2_at) ?_ ?_ (Or.inl ⟨c1, rfl, rfl, rfl⟩)
    · simp (disch := omega) only [up2_ne]
    · simp (disch := omega) only [up2_p]; exact h29
    · simp (disch := omega) only [up2_p, up2_at]
    · simp (disch := omega) only [up2_p, up2_at]
  · by_cases c2 : q.2 = 0
    · refine wp_iload (pc := 0) dX3_choose_0 (by first | rfl | assumption | (repeat first | assumption | rfl | refine aG_n ?_ rfl rfl)) ?_
      refine wp_iconst (pc := 2) (v := 2) dX3_choose_2 (by decide) ?_
      refine wp_idiv (pc := 3) dX3_choose_3 (by decide) ?_
      refine wp_istore (pc := 4) dX3_choose_4 (by decide) ?_
      refine wp_aload_n (pc := 6) dX3_choose_6 (by first | rfl | assumption | (repeat first | assumption | rfl | refine aG_n ?_ rfl rfl)) ?_
      refine wp_iload (pc := 7) dX3_choose_7 (by first | rfl | assumption | (repeat first | assumption | rfl | refine aG_n ?_ rfl rfl)) ?_
      refine wp_cV (pc := 9) dX3_choose_9 lk_3_37 rfl (by decide) rfl (by first | rfl | assumption | exact sh_house (by omega) | exact sh_wish (by omega) | exact sh_wor (by omega) | exact sh_bar (by omega) | exact sh_term (by omega) | exact sh_sheet (by omega) | exact sh_items (by omega) | exact sh_sums (by omega)) rfl rfl ?_
      rw [ed]
      refine c_X1_levelAt hi ?_
      rw [hlv]
      refine aK_i ?_
      refine wp_istore (pc := 12) dX3_choose_12 (by decide) ?_
      refine wp_aload_n (pc := 14) dX3_choose_14 (by first | rfl | assumption | (repeat first | assumption | rfl | refine aG_n ?_ rfl rfl)) ?_
      refine wp_iconst (pc := 15) (v := 0) dX3_choose_15 (by decide) ?_
      refine wp_putI (pc := 16) dX3_choose_16 fl_3_43 (by first | rfl | assumption | exact sh_house (by omega) | exact sh_wish (by omega) | exact sh_wor (by omega) | exact sh_bar (by omega) | exact sh_term (by omega) | exact sh_sheet (by omega) | exact sh_items (by omega) | exact sh_sums (by omega)) rfl rfl rfl ?_
      refine wp_aload_n (pc := 19) dX3_choose_19 (by first | rfl | assumption | (repeat first | assumption | rfl | refine aG_n ?_ rfl rfl)) ?_
      refine wp_iconst (pc := 20) (v := 0) dX3_choose_20 (by decide) ?_
      refine wp_putI (pc := 21) dX3_choose_21 fl_3_46 (by first | rfl | assumption | exact sh_house (by omega) | exact sh_wish (by omega) | exact sh_wor (by omega) | exact sh_bar (by omega) | exact sh_term (by omega) | exact sh_sheet (by omega) | exact sh_items (by omega) | exact sh_sums (by omega)) rfl rfl rfl ?_
      refine wp_aload_n (pc := 24) dX3_choose_24 (by first | rfl | assumption | (repeat first | assumption | rfl | refine aG_n ?_ rfl rfl)) ?_
      refine wp_aload_n (pc := 25) dX3_choose_25 (by first | rfl | assumption | (repeat first | assumption | rfl | refine aG_n ?_ rfl rfl)) ?_
      refine wp_iload (pc := 26) dX3_choose_26 (by first | rfl | assumption | (repeat first | assumption | rfl | refine aG_n ?_ rfl rfl)) ?_
      refine wp_iload (pc := 28) dX3_choose_28 (by first | rfl | assumption | (repeat first | assumption | rfl | refine aG_n ?_ rfl rfl)) ?_
      refine wp_cV (pc := 30) dX3_choose_30 lk_3_49 rfl (by decide) rfl (by first | rfl | assumption | exact sh_house (by omega) | exact sh_wish (by omega) | exact sh_wor (by omega) | exact sh_bar (by omega) | exact sh_term (by omega) | exact sh_sheet (by omega) | exact sh_items (by omega) | exact sh_sums (by omega)) rfl rfl (n_suits (N := N) hPr1 hw h731 hk1 hof hn (fun z => absurd (esu.mp z) c1) (fun _ => aK_i ?_))
      refine wp_if_eq (pc := 33) (tgt := 42) dX3_choose_33 rfl (fun _ => ?_) (fun q => absurd rfl q)
      refine wp_aload_n (pc := 42) dX3_choose_42 (by first | rfl | assumption | (repeat first | assumption | rfl | refine aG_n ?_ rfl rfl)) ?_
      refine wp_iconst (pc := 43) (v := 4) dX3_choose_43 (by decide) ?_
      refine wp_putI (pc := 44) dX3_choose_44 fl_3_55 (by first | rfl | assumption | exact sh_house (by omega) | exact sh_wish (by omega) | exact sh_wor (by omega) | exact sh_bar (by omega) | exact sh_term (by omega) | exact sh_sheet (by omega) | exact sh_items (by omega) | exact sh_sums (by omega)) rfl rfl rfl ?_
      refine wp_aload_n (pc := 47) dX3_choose_47 (by first | rfl | assumption | (repeat first | assumption | rfl | refine aG_n ?_ rfl rfl)) ?_
      refine wp_getI (pc := 48) dX3_choose_48 fl_3_15 (by first | rfl | assumption | exact sh_house (by omega) | exact sh_wish (by omega) | exact sh_wor (by omega) | exact sh_bar (by omega) | exact sh_term (by omega) | exact sh_sheet (by omega) | exact sh_items (by omega) | exact sh_sums (by omega)) rfl ?_
      refine wp_if_le (pc := 51) (tgt := 59) dX3_choose_51 rfl (fun _ => ?_) (fun q => absurd (by dsimp only; rw [h294, c2]; decide) q)
      refine wp_vreturn (pc := 59) dX3_choose_59 rfl ?_
      skip
      refine k _ 4 0 0 (fun c hc => ?_) rfl h294 (by dsimp only; exact up2_at) ?_ ?_ (Or.inr (Or.inl ⟨c1, Or.inl c2, rfl, rfl, rfl⟩))
      · simp (disch := omega) only [up2_ne]
      · simp (disch := omega) only [up2_p, up2_at]
      · simp (disch := omega) only [up2_p, up2_at]
    · have hm : n / 2 % q.2 < q.2 := Nat.mod_lt _ (by omega)
      have er : nI (n / 2) - nI (n / 2) / nI q.2 * nI q.2 = nI (n / 2 % q.2) := pk_rem (by omega) (by omega) (by omega)
      have cr : (nI (n / 2 % q.2)).toNatClampNeg = n / 2 % q.2 := nI_clamp (by omega)
      have e30 : up2 (up2 (up2 μ.1 29 1 0) 29 2 0) 29 0 4 30 (n / 2 % q.2) = nI (q.1 (n / 2 % q.2)) := by simp (disch := omega) only [up2_ne]; exact h30 _ hm
      have hs64 := hq2 _ hm
      have eg : (if n % 2 = 0 then gnd (up2 (up2 (up2 μ.1 29 1 0) 29 2 0) 29 0 4) t wv (n % 2) (q.1 (n / 2 % q.2)) - lv else -(gnd (up2 (up2 (up2 μ.1 29 1 0) 29 2 0) 29 0 4) t wv (n % 2) (q.1 (n / 2 % q.2)) - lv)) = pfC μ.1 t wv (n % 2) lv (q.1 (n / 2 % q.2)) := by
        unfold pfC gnd
        rw [up2_ne (hwv _ hd2).1, up2_ne (hwv _ hd2).1, up2_ne (hwv _ hd2).1]
      by_cases c3 : inR (pfC μ.1 t wv (n % 2) lv (q.1 (n / 2 % q.2))) (-999) 999
      · by_cases c4 : 0 < n ∧ isOf N (n - 1)
        · refine wp_iload (pc := 0) dX3_choose_0 (by first | rfl | assumption | (repeat first | assumption | rfl | refine aG_n ?_ rfl rfl)) ?_
          refine wp_iconst (pc := 2) (v := 2) dX3_choose_2 (by decide) ?_
          refine wp_idiv (pc := 3) dX3_choose_3 (by decide) ?_
          refine wp_istore (pc := 4) dX3_choose_4 (by decide) ?_
          refine wp_aload_n (pc := 6) dX3_choose_6 (by first | rfl | assumption | (repeat first | assumption | rfl | refine aG_n ?_ rfl rfl)) ?_
          refine wp_iload (pc := 7) dX3_choose_7 (by first | rfl | assumption | (repeat first | assumption | rfl | refine aG_n ?_ rfl rfl)) ?_
          refine wp_cV (pc := 9) dX3_choose_9 lk_3_37 rfl (by decide) rfl (by first | rfl | assumption | exact sh_house (by omega) | exact sh_wish (by omega) | exact sh_wor (by omega) | exact sh_bar (by omega) | exact sh_term (by omega) | exact sh_sheet (by omega) | exact sh_items (by omega) | exact sh_sums (by omega)) rfl rfl ?_
          rw [ed]
          refine c_X1_levelAt hi ?_
          rw [hlv]
          refine aK_i ?_
          refine wp_istore (pc := 12) dX3_choose_12 (by decide) ?_
          refine wp_aload_n (pc := 14) dX3_choose_14 (by first | rfl | assumption | (repeat first | assumption | rfl | refine aG_n ?_ rfl rfl)) ?_
          refine wp_iconst (pc := 15) (v := 0) dX3_choose_15 (by decide) ?_
          refine wp_putI (pc := 16) dX3_choose_16 fl_3_43 (by first | rfl | assumption | exact sh_house (by omega) | exact sh_wish (by omega) | exact sh_wor (by omega) | exact sh_bar (by omega) | exact sh_term (by omega) | exact sh_sheet (by omega) | exact sh_items (by omega) | exact sh_sums (by omega)) rfl rfl rfl ?_
          refine wp_aload_n (pc := 19) dX3_choose_19 (by first | rfl | assumption | (repeat first | assumption | rfl | refine aG_n ?_ rfl rfl)) ?_
          refine wp_iconst (pc := 20) (v := 0) dX3_choose_20 (by decide) ?_
          refine wp_putI (pc := 21) dX3_choose_21 fl_3_46 (by first | rfl | assumption | exact sh_house (by omega) | exact sh_wish (by omega) | exact sh_wor (by omega) | exact sh_bar (by omega) | exact sh_term (by omega) | exact sh_sheet (by omega) | exact sh_items (by omega) | exact sh_sums (by omega)) rfl rfl rfl ?_
          refine wp_aload_n (pc := 24) dX3_choose_24 (by first | rfl | assumption | (repeat first | assumption | rfl | refine aG_n ?_ rfl rfl)) ?_
          refine wp_aload_n (pc := 25) dX3_choose_25 (by first | rfl | assumption | (repeat first | assumption | rfl | refine aG_n ?_ rfl rfl)) ?_
          refine wp_iload (pc := 26) dX3_choose_26 (by first | rfl | assumption | (repeat first | assumption | rfl | refine aG_n ?_ rfl rfl)) ?_
          refine wp_iload (pc := 28) dX3_choose_28 (by first | rfl | assumption | (repeat first | assumption | rfl | refine aG_n ?_ rfl rfl)) ?_
          refine wp_cV (pc := 30) dX3_choose_30 lk_3_49 rfl (by decide) rfl (by first | rfl | assumption | exact sh_house (by omega) | exact sh_wish (by omega) | exact sh_wor (by omega) | exact sh_bar (by omega) | exact sh_term (by omega) | exact sh_sheet (by omega) | exact sh_items (by omega) | exact sh_sums (by omega)) rfl rfl (n_suits (N := N) hPr1 hw h731 hk1 hof hn (fun z => absurd (esu.mp z) c1) (fun _ => aK_i ?_))
          refine wp_if_eq (pc := 33) (tgt := 42) dX3_choose_33 rfl (fun _ => ?_) (fun q => absurd rfl q)
          refine wp_aload_n (pc := 42) dX3_choose_42 (by first | rfl | assumption | (repeat first | assumption | rfl | refine aG_n ?_ rfl rfl)) ?_
          refine wp_iconst (pc := 43) (v := 4) dX3_choose_43 (by decide) ?_
          refine wp_putI (pc := 44) dX3_choose_44 fl_3_55 (by first | rfl | assumption | exact sh_house (by omega) | exact sh_wish (by omega) | exact sh_wor (by omega) | exact sh_bar (by omega) | exact sh_term (by omega) | exact sh_sheet (by omega) | exact sh_items (by omega) | exact sh_sums (by omega)) rfl rfl rfl ?_
          refine wp_aload_n (pc := 47) dX3_choose_47 (by first | rfl | assumption | (repeat first | assumption | rfl | refine aG_n ?_ rfl rfl)) ?_
          refine wp_getI (pc := 48) dX3_choose_48 fl_3_15 (by first | rfl | assumption | exact sh_house (by omega) | exact sh_wish (by omega) | exact sh_wor (by omega) | exact sh_bar (by omega) | exact sh_term (by omega) | exact sh_sheet (by omega) | exact sh_items (by omega) | exact sh_sums (by omega)) rfl ?_
          refine wp_if_le (pc := 51) (tgt := 59) dX3_choose_51 rfl (fun q => absurd q (by dsimp only; rw [h294]; exact nI_nle (by omega) (by omega))) (fun _ => ?_)
          refine wp_iload (pc := 54) dX3_choose_54 (by first | rfl | assumption | (repeat first | assumption | rfl | refine aG_n ?_ rfl rfl)) ?_
          refine wp_if_ge (pc := 56) (tgt := 60) dX3_choose_56 rfl (fun _ => ?_) (fun q => absurd (by (try rw [ed]); exact nI_pos' (by omega)) q)
          refine wp_aload_n (pc := 60) dX3_choose_60 (by first | rfl | assumption | (repeat first | assumption | rfl | refine aG_n ?_ rfl rfl)) ?_
          refine wp_getR (pc := 61) dX3_choose_61 fl_3_9 (by first | rfl | assumption | exact sh_house (by omega) | exact sh_wish (by omega) | exact sh_wor (by omega) | exact sh_bar (by omega) | exact sh_term (by omega) | exact sh_sheet (by omega) | exact sh_items (by omega) | exact sh_sums (by omega)) rfl ?_
          refine wp_iload (pc := 64) dX3_choose_64 (by first | rfl | assumption | (repeat first | assumption | rfl | refine aG_n ?_ rfl rfl)) ?_
          refine wp_aload_n (pc := 66) dX3_choose_66 (by first | rfl | assumption | (repeat first | assumption | rfl | refine aG_n ?_ rfl rfl)) ?_
          refine wp_getI (pc := 67) dX3_choose_67 fl_3_15 (by first | rfl | assumption | exact sh_house (by omega) | exact sh_wish (by omega) | exact sh_wor (by omega) | exact sh_bar (by omega) | exact sh_term (by omega) | exact sh_sheet (by omega) | exact sh_items (by omega) | exact sh_sums (by omega)) rfl ?_
          refine wp_irem (pc := 70) dX3_choose_70 (by dsimp only; rw [h294]; exact nI_ne0 (by omega) (by omega)) ?_
          refine wp_iald (pc := 71) dX3_choose_71 (by first | rfl | assumption | exact sh_house (by omega) | exact sh_wish (by omega) | exact sh_wor (by omega) | exact sh_bar (by omega) | exact sh_term (by omega) | exact sh_sheet (by omega) | exact sh_items (by omega) | exact sh_sums (by omega)) (by dsimp only; (try rw [ed]); rw [h294, er]; exact vp_in_nI (by omega) (by decide)) ?_
          refine wp_istore (pc := 72) dX3_choose_72 (by decide) ?_
          refine wp_aload_n (pc := 74) dX3_choose_74 (by first | rfl | assumption | (repeat first | assumption | rfl | refine aG_n ?_ rfl rfl)) ?_
          refine wp_aload_n (pc := 75) dX3_choose_75 (by first | rfl | assumption | (repeat first | assumption | rfl | refine aG_n ?_ rfl rfl)) ?_
          refine wp_iload (pc := 76) dX3_choose_76 (by first | rfl | assumption | (repeat first | assumption | rfl | refine aG_n ?_ rfl rfl)) ?_
          refine wp_cV (pc := 78) dX3_choose_78 lk_3_58 rfl (by decide) rfl (by first | rfl | assumption | exact sh_house (by omega) | exact sh_wish (by omega) | exact sh_wor (by omega) | exact sh_bar (by omega) | exact sh_term (by omega) | exact sh_sheet (by omega) | exact sh_items (by omega) | exact sh_sums (by omega)) rfl rfl ?_
          refine wp_iload_n (pc := 0) dX7_sideAt_0 (by first | rfl | assumption | (repeat first | assumption | rfl | refine aG_n ?_ rfl rfl)) ?_
          refine wp_iconst (pc := 1) (v := 1) dX7_sideAt_1 (by decide) ?_
          refine wp_iand (pc := 2) dX7_sideAt_2 ?_
          refine wp_iretK (pc := 3) dX7_sideAt_3 rfl (by first | rfl | decide | assumption) ?_
          refine wp_iload (pc := 81) dX3_choose_81 (by first | rfl | assumption | (repeat first | assumption | rfl | refine aG_n ?_ rfl rfl)) ?_
          refine wp_iload (pc := 83) dX3_choose_83 (by first | rfl | assumption | (repeat first | assumption | rfl | refine aG_n ?_ rfl rfl)) ?_
          refine wp_cV (pc := 85) dX3_choose_85 lk_3_61 rfl (by decide) rfl (by first | rfl | assumption | exact sh_house (by omega) | exact sh_wish (by omega) | exact sh_wor (by omega) | exact sh_bar (by omega) | exact sh_term (by omega) | exact sh_sheet (by omega) | exact sh_items (by omega) | exact sh_sums (by omega)) rfl rfl ?_
          dsimp only
          (try rw [ed])
          rw [h294, er, cr, e30, side_i (by omega)]
          refine c_X4_priceFor hPr2 hd2 hs64 ?_
          dsimp only
          rw [eg]
          refine aK_i ?_
          refine wp_istore (pc := 88) dX3_choose_88 (by decide) ?_
          refine wp_iload (pc := 90) dX3_choose_90 (by first | rfl | assumption | (repeat first | assumption | rfl | refine aG_n ?_ rfl rfl)) ?_
          refine wp_cS (pc := 92) dX3_choose_92 lk_3_65 rfl rfl rfl (c_X11_isPrice (fun _ => aK_i ?_) (fun q => absurd c3 q))
          refine wp_if_eq (pc := 95) (tgt := 120) dX3_choose_95 rfl (fun q => absurd q (by decide)) (fun _ => ?_)
          refine wp_aload_n (pc := 98) dX3_choose_98 (by first | rfl | assumption | (repeat first | assumption | rfl | refine aG_n ?_ rfl rfl)) ?_
          refine wp_aload_n (pc := 99) dX3_choose_99 (by first | rfl | assumption | (repeat first | assumption | rfl | refine aG_n ?_ rfl rfl)) ?_
          refine wp_iload (pc := 100) dX3_choose_100 (by first | rfl | assumption | (repeat first | assumption | rfl | refine aG_n ?_ rfl rfl)) ?_
          refine wp_cV (pc := 102) dX3_choose_102 lk_3_68 rfl (by decide) rfl (by first | rfl | assumption | exact sh_house (by omega) | exact sh_wish (by omega) | exact sh_wor (by omega) | exact sh_bar (by omega) | exact sh_term (by omega) | exact sh_sheet (by omega) | exact sh_items (by omega) | exact sh_sums (by omega)) rfl rfl (n_offerKind (N := N) hw h732 hk2 (fun _ => aK_i ?_) (fun z => absurd ((ofW_p hw hn).mpr c4) z))
          refine wp_putI (pc := 105) dX3_choose_105 fl_3_55 (by first | rfl | assumption | exact sh_house (by omega) | exact sh_wish (by omega) | exact sh_wor (by omega) | exact sh_bar (by omega) | exact sh_term (by omega) | exact sh_sheet (by omega) | exact sh_items (by omega) | exact sh_sums (by omega)) rfl rfl rfl ?_
          refine wp_aload_n (pc := 108) dX3_choose_108 (by first | rfl | assumption | (repeat first | assumption | rfl | refine aG_n ?_ rfl rfl)) ?_
          refine wp_iload (pc := 109) dX3_choose_109 (by first | rfl | assumption | (repeat first | assumption | rfl | refine aG_n ?_ rfl rfl)) ?_
          refine wp_putI (pc := 111) dX3_choose_111 fl_3_43 (by first | rfl | assumption | exact sh_house (by omega) | exact sh_wish (by omega) | exact sh_wor (by omega) | exact sh_bar (by omega) | exact sh_term (by omega) | exact sh_sheet (by omega) | exact sh_items (by omega) | exact sh_sums (by omega)) rfl rfl rfl ?_
          refine wp_aload_n (pc := 114) dX3_choose_114 (by first | rfl | assumption | (repeat first | assumption | rfl | refine aG_n ?_ rfl rfl)) ?_
          refine wp_iload (pc := 115) dX3_choose_115 (by first | rfl | assumption | (repeat first | assumption | rfl | refine aG_n ?_ rfl rfl)) ?_
          refine wp_putI (pc := 117) dX3_choose_117 fl_3_46 (by first | rfl | assumption | exact sh_house (by omega) | exact sh_wish (by omega) | exact sh_wor (by omega) | exact sh_bar (by omega) | exact sh_term (by omega) | exact sh_sheet (by omega) | exact sh_items (by omega) | exact sh_sums (by omega)) rfl rfl rfl ?_
          refine wp_vreturn (pc := 120) dX3_choose_120 rfl ?_
          skip
          refine k _ 2 _ _ (fun c hc => ?_) rfl ?_ ?_ ?_ (by dsimp only; exact up2_at) (Or.inr (Or.inr ⟨c1, c2, c3, Or.inl ⟨c4, rfl⟩, rfl, rfl⟩))
          · simp (disch := omega) only [up2_ne]
          · simp (disch := omega) only [up2_p]; exact h29
          · simp (disch := omega) only [up2_p, up2_at]
          · simp (disch := omega) only [up2_p, up2_at]
        · refine wp_iload (pc := 0) dX3_choose_0 (by first | rfl | assumption | (repeat first | assumption | rfl | refine aG_n ?_ rfl rfl)) ?_
          refine wp_iconst (pc := 2) (v := 2) dX3_choose_2 (by decide) ?_
          refine wp_idiv (pc := 3) dX3_choose_3 (by decide) ?_
          refine wp_istore (pc := 4) dX3_choose_4 (by decide) ?_
          refine wp_aload_n (pc := 6) dX3_choose_6 (by first | rfl | assumption | (repeat first | assumption | rfl | refine aG_n ?_ rfl rfl)) ?_
          refine wp_iload (pc := 7) dX3_choose_7 (by first | rfl | assumption | (repeat first | assumption | rfl | refine aG_n ?_ rfl rfl)) ?_
          refine wp_cV (pc := 9) dX3_choose_9 lk_3_37 rfl (by decide) rfl (by first | rfl | assumption | exact sh_house (by omega) | exact sh_wish (by omega) | exact sh_wor (by omega) | exact sh_bar (by omega) | exact sh_term (by omega) | exact sh_sheet (by omega) | exact sh_items (by omega) | exact sh_sums (by omega)) rfl rfl ?_
          rw [ed]
          refine c_X1_levelAt hi ?_
          rw [hlv]
          refine aK_i ?_
          refine wp_istore (pc := 12) dX3_choose_12 (by decide) ?_
          refine wp_aload_n (pc := 14) dX3_choose_14 (by first | rfl | assumption | (repeat first | assumption | rfl | refine aG_n ?_ rfl rfl)) ?_
          refine wp_iconst (pc := 15) (v := 0) dX3_choose_15 (by decide) ?_
          refine wp_putI (pc := 16) dX3_choose_16 fl_3_43 (by first | rfl | assumption | exact sh_house (by omega) | exact sh_wish (by omega) | exact sh_wor (by omega) | exact sh_bar (by omega) | exact sh_term (by omega) | exact sh_sheet (by omega) | exact sh_items (by omega) | exact sh_sums (by omega)) rfl rfl rfl ?_
          refine wp_aload_n (pc := 19) dX3_choose_19 (by first | rfl | assumption | (repeat first | assumption | rfl | refine aG_n ?_ rfl rfl)) ?_
          refine wp_iconst (pc := 20) (v := 0) dX3_choose_20 (by decide) ?_
          refine wp_putI (pc := 21) dX3_choose_21 fl_3_46 (by first | rfl | assumption | exact sh_house (by omega) | exact sh_wish (by omega) | exact sh_wor (by omega) | exact sh_bar (by omega) | exact sh_term (by omega) | exact sh_sheet (by omega) | exact sh_items (by omega) | exact sh_sums (by omega)) rfl rfl rfl ?_
          refine wp_aload_n (pc := 24) dX3_choose_24 (by first | rfl | assumption | (repeat first | assumption | rfl | refine aG_n ?_ rfl rfl)) ?_
          refine wp_aload_n (pc := 25) dX3_choose_25 (by first | rfl | assumption | (repeat first | assumption | rfl | refine aG_n ?_ rfl rfl)) ?_
          refine wp_iload (pc := 26) dX3_choose_26 (by first | rfl | assumption | (repeat first | assumption | rfl | refine aG_n ?_ rfl rfl)) ?_
          refine wp_iload (pc := 28) dX3_choose_28 (by first | rfl | assumption | (repeat first | assumption | rfl | refine aG_n ?_ rfl rfl)) ?_
          refine wp_cV (pc := 30) dX3_choose_30 lk_3_49 rfl (by decide) rfl (by first | rfl | assumption | exact sh_house (by omega) | exact sh_wish (by omega) | exact sh_wor (by omega) | exact sh_bar (by omega) | exact sh_term (by omega) | exact sh_sheet (by omega) | exact sh_items (by omega) | exact sh_sums (by omega)) rfl rfl (n_suits (N := N) hPr1 hw h731 hk1 hof hn (fun z => absurd (esu.mp z) c1) (fun _ => aK_i ?_))
          refine wp_if_eq (pc := 33) (tgt := 42) dX3_choose_33 rfl (fun _ => ?_) (fun q => absurd rfl q)
          refine wp_aload_n (pc := 42) dX3_choose_42 (by first | rfl | assumption | (repeat first | assumption | rfl | refine aG_n ?_ rfl rfl)) ?_
          refine wp_iconst (pc := 43) (v := 4) dX3_choose_43 (by decide) ?_
          refine wp_putI (pc := 44) dX3_choose_44 fl_3_55 (by first | rfl | assumption | exact sh_house (by omega) | exact sh_wish (by omega) | exact sh_wor (by omega) | exact sh_bar (by omega) | exact sh_term (by omega) | exact sh_sheet (by omega) | exact sh_items (by omega) | exact sh_sums (by omega)) rfl rfl rfl ?_
          refine wp_aload_n (pc := 47) dX3_choose_47 (by first | rfl | assumption | (repeat first | assumption | rfl | refine aG_n ?_ rfl rfl)) ?_
          refine wp_getI (pc := 48) dX3_choose_48 fl_3_15 (by first | rfl | assumption | exact sh_house (by omega) | exact sh_wish (by omega) | exact sh_wor (by omega) | exact sh_bar (by omega) | exact sh_term (by omega) | exact sh_sheet (by omega) | exact sh_items (by omega) | exact sh_sums (by omega)) rfl ?_
          refine wp_if_le (pc := 51) (tgt := 59) dX3_choose_51 rfl (fun q => absurd q (by dsimp only; rw [h294]; exact nI_nle (by omega) (by omega))) (fun _ => ?_)
          refine wp_iload (pc := 54) dX3_choose_54 (by first | rfl | assumption | (repeat first | assumption | rfl | refine aG_n ?_ rfl rfl)) ?_
          refine wp_if_ge (pc := 56) (tgt := 60) dX3_choose_56 rfl (fun _ => ?_) (fun q => absurd (by (try rw [ed]); exact nI_pos' (by omega)) q)
          refine wp_aload_n (pc := 60) dX3_choose_60 (by first | rfl | assumption | (repeat first | assumption | rfl | refine aG_n ?_ rfl rfl)) ?_
          refine wp_getR (pc := 61) dX3_choose_61 fl_3_9 (by first | rfl | assumption | exact sh_house (by omega) | exact sh_wish (by omega) | exact sh_wor (by omega) | exact sh_bar (by omega) | exact sh_term (by omega) | exact sh_sheet (by omega) | exact sh_items (by omega) | exact sh_sums (by omega)) rfl ?_
          refine wp_iload (pc := 64) dX3_choose_64 (by first | rfl | assumption | (repeat first | assumption | rfl | refine aG_n ?_ rfl rfl)) ?_
          refine wp_aload_n (pc := 66) dX3_choose_66 (by first | rfl | assumption | (repeat first | assumption | rfl | refine aG_n ?_ rfl rfl)) ?_
          refine wp_getI (pc := 67) dX3_choose_67 fl_3_15 (by first | rfl | assumption | exact sh_house (by omega) | exact sh_wish (by omega) | exact sh_wor (by omega) | exact sh_bar (by omega) | exact sh_term (by omega) | exact sh_sheet (by omega) | exact sh_items (by omega) | exact sh_sums (by omega)) rfl ?_
          refine wp_irem (pc := 70) dX3_choose_70 (by dsimp only; rw [h294]; exact nI_ne0 (by omega) (by omega)) ?_
          refine wp_iald (pc := 71) dX3_choose_71 (by first | rfl | assumption | exact sh_house (by omega) | exact sh_wish (by omega) | exact sh_wor (by omega) | exact sh_bar (by omega) | exact sh_term (by omega) | exact sh_sheet (by omega) | exact sh_items (by omega) | exact sh_sums (by omega)) (by dsimp only; (try rw [ed]); rw [h294, er]; exact vp_in_nI (by omega) (by decide)) ?_
          refine wp_istore (pc := 72) dX3_choose_72 (by decide) ?_
          refine wp_aload_n (pc := 74) dX3_choose_74 (by first | rfl | assumption | (repeat first | assumption | rfl | refine aG_n ?_ rfl rfl)) ?_
          refine wp_aload_n (pc := 75) dX3_choose_75 (by first | rfl | assumption | (repeat first | assumption | rfl | refine aG_n ?_ rfl rfl)) ?_
          refine wp_iload (pc := 76) dX3_choose_76 (by first | rfl | assumption | (repeat first | assumption | rfl | refine aG_n ?_ rfl rfl)) ?_
          refine wp_cV (pc := 78) dX3_choose_78 lk_3_58 rfl (by decide) rfl (by first | rfl | assumption | exact sh_house (by omega) | exact sh_wish (by omega) | exact sh_wor (by omega) | exact sh_bar (by omega) | exact sh_term (by omega) | exact sh_sheet (by omega) | exact sh_items (by omega) | exact sh_sums (by omega)) rfl rfl ?_
          refine wp_iload_n (pc := 0) dX7_sideAt_0 (by first | rfl | assumption | (repeat first | assumption | rfl | refine aG_n ?_ rfl rfl)) ?_
          refine wp_iconst (pc := 1) (v := 1) dX7_sideAt_1 (by decide) ?_
          refine wp_iand (pc := 2) dX7_sideAt_2 ?_
          refine wp_iretK (pc := 3) dX7_sideAt_3 rfl (by first | rfl | decide | assumption) ?_
          refine wp_iload (pc := 81) dX3_choose_81 (by first | rfl | assumption | (repeat first | assumption | rfl | refine aG_n ?_ rfl rfl)) ?_
          refine wp_iload (pc := 83) dX3_choose_83 (by first | rfl | assumption | (repeat first | assumption | rfl | refine aG_n ?_ rfl rfl)) ?_
          refine wp_cV (pc := 85) dX3_choose_85 lk_3_61 rfl (by decide) rfl (by first | rfl | assumption | exact sh_house (by omega) | exact sh_wish (by omega) | exact sh_wor (by omega) | exact sh_bar (by omega) | exact sh_term (by omega) | exact sh_sheet (by omega) | exact sh_items (by omega) | exact sh_sums (by omega)) rfl rfl ?_
          dsimp only
          (try rw [ed])
          rw [h294, er, cr, e30, side_i (by omega)]
          refine c_X4_priceFor hPr2 hd2 hs64 ?_
          dsimp only
          rw [eg]
          refine aK_i ?_
          refine wp_istore (pc := 88) dX3_choose_88 (by decide) ?_
          refine wp_iload (pc := 90) dX3_choose_90 (by first | rfl | assumption | (repeat first | assumption | rfl | refine aG_n ?_ rfl rfl)) ?_
          refine wp_cS (pc := 92) dX3_choose_92 lk_3_65 rfl rfl rfl (c_X11_isPrice (fun _ => aK_i ?_) (fun q => absurd c3 q))
          refine wp_if_eq (pc := 95) (tgt := 120) dX3_choose_95 rfl (fun q => absurd q (by decide)) (fun _ => ?_)
          refine wp_aload_n (pc := 98) dX3_choose_98 (by first | rfl | assumption | (repeat first | assumption | rfl | refine aG_n ?_ rfl rfl)) ?_
          refine wp_aload_n (pc := 99) dX3_choose_99 (by first | rfl | assumption | (repeat first | assumption | rfl | refine aG_n ?_ rfl rfl)) ?_
          refine wp_iload (pc := 100) dX3_choose_100 (by first | rfl | assumption | (repeat first | assumption | rfl | refine aG_n ?_ rfl rfl)) ?_
          refine wp_cV (pc := 102) dX3_choose_102 lk_3_68 rfl (by decide) rfl (by first | rfl | assumption | exact sh_house (by omega) | exact sh_wish (by omega) | exact sh_wor (by omega) | exact sh_bar (by omega) | exact sh_term (by omega) | exact sh_sheet (by omega) | exact sh_items (by omega) | exact sh_sums (by omega)) rfl rfl (n_offerKind (N := N) hw h732 hk2 (fun z => absurd ((ofW_p hw hn).mp z) c4) (fun _ => aK_i ?_))
          refine wp_putI (pc := 105) dX3_choose_105 fl_3_55 (by first | rfl | assumption | exact sh_house (by omega) | exact sh_wish (by omega) | exact sh_wor (by omega) | exact sh_bar (by omega) | exact sh_term (by omega) | exact sh_sheet (by omega) | exact sh_items (by omega) | exact sh_sums (by omega)) rfl rfl rfl ?_
          refine wp_aload_n (pc := 108) dX3_choose_108 (by first | rfl | assumption | (repeat first | assumption | rfl | refine aG_n ?_ rfl rfl)) ?_
          refine wp_iload (pc := 109) dX3_choose_109 (by first | rfl | assumption | (repeat first | assumption | rfl | refine aG_n ?_ rfl rfl)) ?_
          refine wp_putI (pc := 111) dX3_choose_111 fl_3_43 (by first | rfl | assumption | exact sh_house (by omega) | exact sh_wish (by omega) | exact sh_wor (by omega) | exact sh_bar (by omega) | exact sh_term (by omega) | exact sh_sheet (by omega) | exact sh_items (by omega) | exact sh_sums (by omega)) rfl rfl rfl ?_
          refine wp_aload_n (pc := 114) dX3_choose_114 (by first | rfl | assumption | (repeat first | assumption | rfl | refine aG_n ?_ rfl rfl)) ?_
          refine wp_iload (pc := 115) dX3_choose_115 (by first | rfl | assumption | (repeat first | assumption | rfl | refine aG_n ?_ rfl rfl)) ?_
          refine wp_putI (pc := 117) dX3_choose_117 fl_3_46 (by first | rfl | assumption | exact sh_house (by omega) | exact sh_wish (by omega) | exact sh_wor (by omega) | exact sh_bar (by omega) | exact sh_term (by omega) | exact sh_sheet (by omega) | exact sh_items (by omega) | exact sh_sums (by omega)) rfl rfl rfl ?_
          refine wp_vreturn (pc := 120) dX3_choose_120 rfl ?_
          skip
          refine k _ 1 _ _ (fun c hc => ?_) rfl ?_ ?_ ?_ (by dsimp only; exact up2_at) (Or.inr (Or.inr ⟨c1, c2, c3, Or.inr ⟨c4, rfl⟩, rfl, rfl⟩))
          · simp (disch := omega) only [up2_ne]
          · simp (disch := omega) only [up2_p]; exact h29
          · simp (disch := omega) only [up2_p, up2_at]
          · simp (disch := omega) only [up2_p, up2_at]
      · refine wp_iload (pc := 0) dX3_choose_0 (by first | rfl | assumption | (repeat first | assumption | rfl | refine aG_n ?_ rfl rfl)) ?_
        refine wp_iconst (pc := 2) (v := 2) dX3_choose_2 (by decide) ?_
        refine wp_idiv (pc := 3) dX3_choose_3 (by decide) ?_
        refine wp_istore (pc := 4) dX3_choose_4 (by decide) ?_
        refine wp_aload_n (pc := 6) dX3_choose_6 (by first | rfl | assumption | (repeat first | assumption | rfl | refine aG_n ?_ rfl rfl)) ?_
        refine wp_iload (pc := 7) dX3_choose_7 (by first | rfl | assumption | (repeat first | assumption | rfl | refine aG_n ?_ rfl rfl)) ?_
        refine wp_cV (pc := 9) dX3_choose_9 lk_3_37 rfl (by decide) rfl (by first | rfl | assumption | exact sh_house (by omega) | exact sh_wish (by omega) | exact sh_wor (by omega) | exact sh_bar (by omega) | exact sh_term (by omega) | exact sh_sheet (by omega) | exact sh_items (by omega) | exact sh_sums (by omega)) rfl rfl ?_
        rw [ed]
        refine c_X1_levelAt hi ?_
        rw [hlv]
        refine aK_i ?_
        refine wp_istore (pc := 12) dX3_choose_12 (by decide) ?_
        refine wp_aload_n (pc := 14) dX3_choose_14 (by first | rfl | assumption | (repeat first | assumption | rfl | refine aG_n ?_ rfl rfl)) ?_
        refine wp_iconst (pc := 15) (v := 0) dX3_choose_15 (by decide) ?_
        refine wp_putI (pc := 16) dX3_choose_16 fl_3_43 (by first | rfl | assumption | exact sh_house (by omega) | exact sh_wish (by omega) | exact sh_wor (by omega) | exact sh_bar (by omega) | exact sh_term (by omega) | exact sh_sheet (by omega) | exact sh_items (by omega) | exact sh_sums (by omega)) rfl rfl rfl ?_
        refine wp_aload_n (pc := 19) dX3_choose_19 (by first | rfl | assumption | (repeat first | assumption | rfl | refine aG_n ?_ rfl rfl)) ?_
        refine wp_iconst (pc := 20) (v := 0) dX3_choose_20 (by decide) ?_
        refine wp_putI (pc := 21) dX3_choose_21 fl_3_46 (by first | rfl | assumption | exact sh_house (by omega) | exact sh_wish (by omega) | exact sh_wor (by omega) | exact sh_bar (by omega) | exact sh_term (by omega) | exact sh_sheet (by omega) | exact sh_items (by omega) | exact sh_sums (by omega)) rfl rfl rfl ?_
        refine wp_aload_n (pc := 24) dX3_choose_24 (by first | rfl | assumption | (repeat first | assumption | rfl | refine aG_n ?_ rfl rfl)) ?_
        refine wp_aload_n (pc := 25) dX3_choose_25 (by first | rfl | assumption | (repeat first | assumption | rfl | refine aG_n ?_ rfl rfl)) ?_
        refine wp_iload (pc := 26) dX3_choose_26 (by first | rfl | assumption | (repeat first | assumption | rfl | refine aG_n ?_ rfl rfl)) ?_
        refine wp_iload (pc := 28) dX3_choose_28 (by first | rfl | assumption | (repeat first | assumption | rfl | refine aG_n ?_ rfl rfl)) ?_
        refine wp_cV (pc := 30) dX3_choose_30 lk_3_49 rfl (by decide) rfl (by first | rfl | assumption | exact sh_house (by omega) | exact sh_wish (by omega) | exact sh_wor (by omega) | exact sh_bar (by omega) | exact sh_term (by omega) | exact sh_sheet (by omega) | exact sh_items (by omega) | exact sh_sums (by omega)) rfl rfl (n_suits (N := N) hPr1 hw h731 hk1 hof hn (fun z => absurd (esu.mp z) c1) (fun _ => aK_i ?_))
        refine wp_if_eq (pc := 33) (tgt := 42) dX3_choose_33 rfl (fun _ => ?_) (fun q => absurd rfl q)
        refine wp_aload_n (pc := 42) dX3_choose_42 (by first | rfl | assumption | (repeat first | assumption | rfl | refine aG_n ?_ rfl rfl)) ?_
        refine wp_iconst (pc := 43) (v := 4) dX3_choose_43 (by decide) ?_
        refine wp_putI (pc := 44) dX3_choose_44 fl_3_55 (by first | rfl | assumption | exact sh_house (by omega) | exact sh_wish (by omega) | exact sh_wor (by omega) | exact sh_bar (by omega) | exact sh_term (by omega) | exact sh_sheet (by omega) | exact sh_items (by omega) | exact sh_sums (by omega)) rfl rfl rfl ?_
        refine wp_aload_n (pc := 47) dX3_choose_47 (by first | rfl | assumption | (repeat first | assumption | rfl | refine aG_n ?_ rfl rfl)) ?_
        refine wp_getI (pc := 48) dX3_choose_48 fl_3_15 (by first | rfl | assumption | exact sh_house (by omega) | exact sh_wish (by omega) | exact sh_wor (by omega) | exact sh_bar (by omega) | exact sh_term (by omega) | exact sh_sheet (by omega) | exact sh_items (by omega) | exact sh_sums (by omega)) rfl ?_
        refine wp_if_le (pc := 51) (tgt := 59) dX3_choose_51 rfl (fun q => absurd q (by dsimp only; rw [h294]; exact nI_nle (by omega) (by omega))) (fun _ => ?_)
        refine wp_iload (pc := 54) dX3_choose_54 (by first | rfl | assumption | (repeat first | assumption | rfl | refine aG_n ?_ rfl rfl)) ?_
        refine wp_if_ge (pc := 56) (tgt := 60) dX3_choose_56 rfl (fun _ => ?_) (fun q => absurd (by (try rw [ed]); exact nI_pos' (by omega)) q)
        refine wp_aload_n (pc := 60) dX3_choose_60 (by first | rfl | assumption | (repeat first | assumption | rfl | refine aG_n ?_ rfl rfl)) ?_
        refine wp_getR (pc := 61) dX3_choose_61 fl_3_9 (by first | rfl | assumption | exact sh_house (by omega) | exact sh_wish (by omega) | exact sh_wor (by omega) | exact sh_bar (by omega) | exact sh_term (by omega) | exact sh_sheet (by omega) | exact sh_items (by omega) | exact sh_sums (by omega)) rfl ?_
        refine wp_iload (pc := 64) dX3_choose_64 (by first | rfl | assumption | (repeat first | assumption | rfl | refine aG_n ?_ rfl rfl)) ?_
        refine wp_aload_n (pc := 66) dX3_choose_66 (by first | rfl | assumption | (repeat first | assumption | rfl | refine aG_n ?_ rfl rfl)) ?_
        refine wp_getI (pc := 67) dX3_choose_67 fl_3_15 (by first | rfl | assumption | exact sh_house (by omega) | exact sh_wish (by omega) | exact sh_wor (by omega) | exact sh_bar (by omega) | exact sh_term (by omega) | exact sh_sheet (by omega) | exact sh_items (by omega) | exact sh_sums (by omega)) rfl ?_
        refine wp_irem (pc := 70) dX3_choose_70 (by dsimp only; rw [h294]; exact nI_ne0 (by omega) (by omega)) ?_
        refine wp_iald (pc := 71) dX3_choose_71 (by first | rfl | assumption | exact sh_house (by omega) | exact sh_wish (by omega) | exact sh_wor (by omega) | exact sh_bar (by omega) | exact sh_term (by omega) | exact sh_sheet (by omega) | exact sh_items (by omega) | exact sh_sums (by omega)) (by dsimp only; (try rw [ed]); rw [h294, er]; exact vp_in_nI (by omega) (by decide)) ?_
        refine wp_istore (pc := 72) dX3_choose_72 (by decide) ?_
        refine wp_aload_n (pc := 74) dX3_choose_74 (by first | rfl | assumption | (repeat first | assumption | rfl | refine aG_n ?_ rfl rfl)) ?_
        refine wp_aload_n (pc := 75) dX3_choose_75 (by first | rfl | assumption | (repeat first | assumption | rfl | refine aG_n ?_ rfl rfl)) ?_
        refine wp_iload (pc := 76) dX3_choose_76 (by first | rfl | assumption | (repeat first | assumption | rfl | refine aG_n ?_ rfl rfl)) ?_
        refine wp_cV (pc := 78) dX3_choose_78 lk_3_58 rfl (by decide) rfl (by first | rfl | assumption | exact sh_house (by omega) | exact sh_wish (by omega) | exact sh_wor (by omega) | exact sh_bar (by omega) | exact sh_term (by omega) | exact sh_sheet (by omega) | exact sh_items (by omega) | exact sh_sums (by omega)) rfl rfl ?_
        refine wp_iload_n (pc := 0) dX7_sideAt_0 (by first | rfl | assumption | (repeat first | assumption | rfl | refine aG_n ?_ rfl rfl)) ?_
        refine wp_iconst (pc := 1) (v := 1) dX7_sideAt_1 (by decide) ?_
        refine wp_iand (pc := 2) dX7_sideAt_2 ?_
        refine wp_iretK (pc := 3) dX7_sideAt_3 rfl (by first | rfl | decide | assumption) ?_
        refine wp_iload (pc := 81) dX3_choose_81 (by first | rfl | assumption | (repeat first | assumption | rfl | refine aG_n ?_ rfl rfl)) ?_
        refine wp_iload (pc := 83) dX3_choose_83 (by first | rfl | assumption | (repeat first | assumption | rfl | refine aG_n ?_ rfl rfl)) ?_
        refine wp_cV (pc := 85) dX3_choose_85 lk_3_61 rfl (by decide) rfl (by first | rfl | assumption | exact sh_house (by omega) | exact sh_wish (by omega) | exact sh_wor (by omega) | exact sh_bar (by omega) | exact sh_term (by omega) | exact sh_sheet (by omega) | exact sh_items (by omega) | exact sh_sums (by omega)) rfl rfl ?_
        dsimp only
        (try rw [ed])
        rw [h294, er, cr, e30, side_i (by omega)]
        refine c_X4_priceFor hPr2 hd2 hs64 ?_
        dsimp only
        rw [eg]
        refine aK_i ?_
        refine wp_istore (pc := 88) dX3_choose_88 (by decide) ?_
        refine wp_iload (pc := 90) dX3_choose_90 (by first | rfl | assumption | (repeat first | assumption | rfl | refine aG_n ?_ rfl rfl)) ?_
        refine wp_cS (pc := 92) dX3_choose_92 lk_3_65 rfl rfl rfl (c_X11_isPrice (fun q => absurd q c3) (fun _ => aK_i ?_))
        refine wp_if_eq (pc := 95) (tgt := 120) dX3_choose_95 rfl (fun _ => ?_) (fun q => absurd q (by decide))
        refine wp_vreturn (pc := 120) dX3_choose_120 rfl ?_
        skip
        refine k _ 4 0 0 (fun c hc => ?_) rfl h294 (by dsimp only; exact up2_at) ?_ ?_ (Or.inr (Or.inl ⟨c1, Or.inr ⟨c2, c3⟩, rfl, rfl, rfl⟩))
        · simp (disch := omega) only [up2_ne]
        · simp (disch := omega) only [up2_p, up2_at]
        · simp (disch := omega) only [up2_p, up2_at]
end CHOOSE

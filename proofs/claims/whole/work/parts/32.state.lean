/-! TERMS: their ends and states -/
abbrev knP (M : MM) (e : Nat) (h : Int32) : Prop := ¬ M 118 e = -4 ∧ M 119 e ≤ h
abbrev pdP (M : MM) (i : Nat) (h : Int32) : Prop := ¬ M 117 i = -4 ∧ M 117 i ≤ h
def abt (M : MM) (i : Nat) : Nat := (M 115 i).toNatClampNeg
def stV (M : MM) (h e : Int32) (i : Nat) : Int32 := if M 111 i = 3 then (if knP M (abt M i) h then 4 else 1) else if e = -4 then 1 else if pdP M i h then (if M 117 i ≤ e then 3 else 5) else if e < h then 4 else 2
def brV (M : MM) (h e : Int32) (i : Nat) : Int32 := if stV M h e i = 4 ∨ stV M h e i = 5 then (if M 111 i = 3 then M 118 (abt M i) else e + 1) else -4
def eO (M : MM) (h : Int32) (E : Nat → Int32) (i : Nat) : Int32 := if M 111 i = 0 then M 115 i else if M 111 i = 1 then (if knP M (abt M i) h then M 118 (abt M i) + M 116 i else -4) else if M 111 i = 2 then (if brV M h (E (abt M i)) (abt M i) = -4 then -4 else brV M h (E (abt M i)) (abt M i) + M 116 i) else -4
def LT (M : MM) (n : Nat) : Prop := n ≤ 16 ∧ M 31 2 = nI n ∧ M 86 37 = nI n ∧ (∀ i, i < n → (M (36 + i) 0 = M 111 i ∧ M (36 + i) 1 = M 112 i ∧ M (36 + i) 3 = M 114 i ∧ M (36 + i) 4 = M 115 i ∧ M (36 + i) 5 = M 116 i) ∧ (M 111 i = 1 ∨ M 111 i = 3 → ∃ e, e < 10 ∧ M 115 i = nI e) ∧ (M 111 i = 2 → ∃ q, q < i ∧ M 115 i = nI q) ∧ inR (M 111 i) 0 3 ∧ ((M (36 + i) 6 = -1 ∧ M 117 i = -4) ∨ (M (36 + i) 6 = M 117 i ∧ inR (M 117 i) 0 9999))) ∧ ∀ e, e < 10 → (M 34 e = -1 ∧ M 118 e = -4) ∨ (M 34 e = M 118 e ∧ inR (M 118 e) 0 9999 ∧ M 35 e = M 119 e)
theorem LT_of {M : MM} (h : I_led M) : ∃ n, LT M n := by
  obtain ⟨⟨n, a1, a2, a3, a4, a5⟩, a6⟩ := h
  refine ⟨n, a1, a2, a3, fun i hi => ?_, fun e he => ?_⟩
  · obtain ⟨⟨f0, f1, f2, f3, f4, f5⟩, g0, g1, g2, g3, g4, g5, g6, g7, g8⟩ := a4 i hi
    refine ⟨⟨f0, f1, f3, f4, f5⟩, fun z => ?_, g6, g0, g8⟩
    obtain ⟨e, he, ee⟩ := inR_of (n := 9) (g5 z)
    exact ⟨e, by omega, ee⟩
  · rcases a6 e he with z | ⟨z1, z2, z3, -⟩
    · exact Or.inl z
    · exact Or.inr ⟨z1, z2, z3⟩
theorem LT_c {M M' : MM} {n : Nat} (h : LT M n) (hc : ∀ c, ¬ (c = 33 ∨ c = 120 ∨ c = 121 ∨ c = 122) → M' c = M c) : LT M' n := by
  obtain ⟨a1, a2, a3, a4, a5⟩ := h
  refine ⟨a1, by rw [hc 31 (by omega)]; exact a2, by rw [hc 86 (by omega)]; exact a3, fun i hi => ?_, fun e he => ?_⟩
  · rw [hc (36 + i) (by omega), hc 111 (by omega), hc 112 (by omega), hc 114 (by omega), hc 115 (by omega), hc 116 (by omega), hc 117 (by omega)]
    exact a4 i hi
  · rw [hc 34 (by omega), hc 35 (by omega), hc 118 (by omega), hc 119 (by omega)]
    exact a5 e he
theorem st_m {M M' : MM} {h e : Int32} {i : Nat} (hc : ∀ c, 111 ≤ c → c ≤ 119 → M' c = M c) : stV M' h e i = stV M h e i ∧ brV M' h e i = brV M h e i := by
  have h1 : stV M' h e i = stV M h e i := by
    unfold stV abt
    simp only [knP, pdP, hc 111 (by omega) (by omega), hc 115 (by omega) (by omega), hc 117 (by omega) (by omega), hc 118 (by omega) (by omega), hc 119 (by omega) (by omega)]
  refine ⟨h1, ?_⟩
  unfold brV
  rw [h1]
  unfold abt
  rw [hc 111 (by omega) (by omega), hc 115 (by omega) (by omega), hc 118 (by omega) (by omega)]
theorem eO_m {M M' : MM} {h : Int32} {E : Nat → Int32} {i : Nat} (hc : ∀ c, 111 ≤ c → c ≤ 119 → M' c = M c) : eO M' h E i = eO M h E i := by
  have ha : abt M' i = abt M i := by unfold abt; rw [hc 115 (by omega) (by omega)]
  unfold eO
  rw [ha, (st_m (i := abt M i) (e := E (abt M i)) (h := h) hc).2]
  simp only [knP, hc 111 (by omega) (by omega), hc 115 (by omega) (by omega), hc 116 (by omega) (by omega), hc 118 (by omega) (by omega), hc 119 (by omega) (by omega)]
theorem abt_e {M : MM} {i e : Nat} (he : e < 2 ^ 31) (h : M 115 i = nI e) : abt M i = e := by unfold abt; rw [h, nI_clamp he]
theorem eO_c {M : MM} {n : Nat} {h : Int32} {E E' : Nat → Int32} {i : Nat} (hL : LT M n) (hi : i < n) (he : ∀ q, q < i → E' q = E q) : eO M h E' i = eO M h E i := by
  obtain ⟨a1, a2, a3, a4, a5⟩ := hL
  by_cases c : M 111 i = 2
  · obtain ⟨q, hq, eq⟩ := (a4 i hi).2.2.1 c
    have e := abt_e (by omega) eq
    unfold eO
    rw [e, he q hq]
  · unfold eO
    simp only [if_neg c]
theorem eO_u {M : MM} {n : Nat} {h : Int32} {E E' : Nat → Int32} (hL : LT M n) (h1 : ∀ i, i < n → E i = eO M h E i) (h2 : ∀ i, i < n → E' i = eO M h E' i) : ∀ i, i < n → E' i = E i := by
  intro i
  induction i using Nat.strongRecOn with
  | _ i ih =>
    intro hi
    rw [h1 i hi, h2 i hi]
    exact eO_c hL hi (fun q hq => ih q hq (by omega))
section STATE
variable {X : aX} {μ : Mm} {Q : Option Value → Mm → Prop} {n t e : Nat} {h : Int32}
theorem neg_in {v x : Int32} (h : inR v 0 9999) (hx : x.toInt < 0) : ¬ v = x := by
  intro z; rw [z] at h; exact absurd h.1 (by omega)
theorem c_X2_isKnown (hL : LT μ.1 n) (he : e < 10) (kt : knP μ.1 e h → Q (some (.int 1)) μ) (kf : ¬ knP μ.1 e h → Q (some (.int 0)) μ) : WP X mX2_isKnown 0 (lv_args 0 [.ref 31, .int (nI e), .int h]) [] μ Q := by
  have ce : (nI e).toNatClampNeg = e := nI_clamp (by omega)
  rcases hL.2.2.2.2 e he with ⟨z1, z2⟩ | ⟨z1, z2, z3⟩
  · refine wp_aload_n (pc := 0) dX2_isKnown_0 (by first | rfl | assumption | (repeat first | assumption | rfl | refine aG_n ?_ rfl rfl)) ?_
    refine wp_iload_n (pc := 1) dX2_isKnown_1 (by first | rfl | assumption | (repeat first | assumption | rfl | refine aG_n ?_ rfl rfl)) ?_
    refine wp_cV (pc := 2) dX2_isKnown_2 lk_2_50 rfl (by decide) rfl (by first | rfl | assumption | exact sh_house (by omega) | exact sh_wish (by omega) | exact sh_wor (by omega) | exact sh_bar (by omega) | exact sh_term (by omega) | exact sh_sheet (by omega) | exact sh_items (by omega) | exact sh_sums (by omega)) rfl rfl ?_
    refine wp_aload_n (pc := 0) dX2_hasHappened_0 (by first | rfl | assumption | (repeat first | assumption | rfl | refine aG_n ?_ rfl rfl)) ?_
    refine wp_getR (pc := 1) dX2_hasHappened_1 fl_2_21 (by first | rfl | assumption | exact sh_house (by omega) | exact sh_wish (by omega) | exact sh_wor (by omega) | exact sh_bar (by omega) | exact sh_term (by omega) | exact sh_sheet (by omega) | exact sh_items (by omega) | exact sh_sums (by omega)) rfl ?_
    refine wp_iload_n (pc := 4) dX2_hasHappened_4 (by first | rfl | assumption | (repeat first | assumption | rfl | refine aG_n ?_ rfl rfl)) ?_
    refine wp_iald (pc := 5) dX2_hasHappened_5 (by first | rfl | assumption | exact sh_house (by omega) | exact sh_wish (by omega) | exact sh_wor (by omega) | exact sh_bar (by omega) | exact sh_term (by omega) | exact sh_sheet (by omega) | exact sh_items (by omega) | exact sh_sums (by omega)) (vp_in_nI (by omega) (by decide)) ?_
    refine wp_iconst (pc := 6) (v := -1) dX2_hasHappened_6 (by decide) ?_
    refine wp_icmp_eq (pc := 7) (tgt := 14) dX2_hasHappened_7 rfl (fun _ => ?_) (fun q => absurd (by rw [ce]; exact z1) q)
    refine wp_iconst (pc := 14) (v := 0) dX2_hasHappened_14 (by decide) ?_
    refine wp_iretK (pc := 15) dX2_hasHappened_15 rfl (by first | rfl | decide | assumption) ?_
    refine wp_if_eq (pc := 5) (tgt := 22) dX2_isKnown_5 rfl (fun _ => ?_) (fun q => absurd q (by decide))
    refine wp_iconst (pc := 22) (v := 0) dX2_isKnown_22 (by decide) ?_
    refine wp_ireturn (pc := 23) dX2_isKnown_23 rfl (by first | rfl | decide | assumption) ?_
    exact kf (fun z => z.1 z2)
  · have n1 : ¬ μ.1 34 e = -1 := by rw [z1]; exact neg_in z2 (by decide)
    have n2 : ¬ μ.1 118 e = -4 := neg_in z2 (by decide)
    by_cases c : μ.1 119 e ≤ h
    · refine wp_aload_n (pc := 0) dX2_isKnown_0 (by first | rfl | assumption | (repeat first | assumption | rfl | refine aG_n ?_ rfl rfl)) ?_
      refine wp_iload_n (pc := 1) dX2_isKnown_1 (by first | rfl | assumption | (repeat first | assumption | rfl | refine aG_n ?_ rfl rfl)) ?_
      refine wp_cV (pc := 2) dX2_isKnown_2 lk_2_50 rfl (by decide) rfl (by first | rfl | assumption | exact sh_house (by omega) | exact sh_wish (by omega) | exact sh_wor (by omega) | exact sh_bar (by omega) | exact sh_term (by omega) | exact sh_sheet (by omega) | exact sh_items (by omega) | exact sh_sums (by omega)) rfl rfl ?_
      refine wp_aload_n (pc := 0) dX2_hasHappened_0 (by first | rfl | assumption | (repeat first | assumption | rfl | refine aG_n ?_ rfl rfl)) ?_
      refine wp_getR (pc := 1) dX2_hasHappened_1 fl_2_21 (by first | rfl | assumption | exact sh_house (by omega) | exact sh_wish (by omega) | exact sh_wor (by omega) | exact sh_bar (by omega) | exact sh_term (by omega) | exact sh_sheet (by omega) | exact sh_items (by omega) | exact sh_sums (by omega)) rfl ?_
      refine wp_iload_n (pc := 4) dX2_hasHappened_4 (by first | rfl | assumption | (repeat first | assumption | rfl | refine aG_n ?_ rfl rfl)) ?_
      refine wp_iald (pc := 5) dX2_hasHappened_5 (by first | rfl | assumption | exact sh_house (by omega) | exact sh_wish (by omega) | exact sh_wor (by omega) | exact sh_bar (by omega) | exact sh_term (by omega) | exact sh_sheet (by omega) | exact sh_items (by omega) | exact sh_sums (by omega)) (vp_in_nI (by omega) (by decide)) ?_
      refine wp_iconst (pc := 6) (v := -1) dX2_hasHappened_6 (by decide) ?_
      refine wp_icmp_eq (pc := 7) (tgt := 14) dX2_hasHappened_7 rfl (fun q => absurd q (by rw [ce]; exact n1)) (fun _ => ?_)
      refine wp_iconst (pc := 10) (v := 1) dX2_hasHappened_10 (by decide) ?_
      refine wp_goto (pc := 11) (tgt := 15) dX2_hasHappened_11 rfl ?_
      refine wp_iretK (pc := 15) dX2_hasHappened_15 rfl (by first | rfl | decide | assumption) ?_
      refine wp_if_eq (pc := 5) (tgt := 22) dX2_isKnown_5 rfl (fun q => absurd q (by decide)) (fun _ => ?_)
      refine wp_aload_n (pc := 8) dX2_isKnown_8 (by first | rfl | assumption | (repeat first | assumption | rfl | refine aG_n ?_ rfl rfl)) ?_
      refine wp_getR (pc := 9) dX2_isKnown_9 fl_2_24 (by first | rfl | assumption | exact sh_house (by omega) | exact sh_wish (by omega) | exact sh_wor (by omega) | exact sh_bar (by omega) | exact sh_term (by omega) | exact sh_sheet (by omega) | exact sh_items (by omega) | exact sh_sums (by omega)) rfl ?_
      refine wp_iload_n (pc := 12) dX2_isKnown_12 (by first | rfl | assumption | (repeat first | assumption | rfl | refine aG_n ?_ rfl rfl)) ?_
      refine wp_iald (pc := 13) dX2_isKnown_13 (by first | rfl | assumption | exact sh_house (by omega) | exact sh_wish (by omega) | exact sh_wor (by omega) | exact sh_bar (by omega) | exact sh_term (by omega) | exact sh_sheet (by omega) | exact sh_items (by omega) | exact sh_sums (by omega)) (vp_in_nI (by omega) (by decide)) ?_
      refine wp_iload_n (pc := 14) dX2_isKnown_14 (by first | rfl | assumption | (repeat first | assumption | rfl | refine aG_n ?_ rfl rfl)) ?_
      refine wp_icmp_gt (pc := 15) (tgt := 22) dX2_isKnown_15 rfl (fun q => absurd q (by rw [ce, z3]; exact fun z => i_nle z c)) (fun _ => ?_)
      refine wp_iconst (pc := 18) (v := 1) dX2_isKnown_18 (by decide) ?_
      refine wp_goto (pc := 19) (tgt := 23) dX2_isKnown_19 rfl ?_
      refine wp_ireturn (pc := 23) dX2_isKnown_23 rfl (by first | rfl | decide | assumption) ?_
      exact kt ⟨n2, c⟩
    · refine wp_aload_n (pc := 0) dX2_isKnown_0 (by first | rfl | assumption | (repeat first | assumption | rfl | refine aG_n ?_ rfl rfl)) ?_
      refine wp_iload_n (pc := 1) dX2_isKnown_1 (by first | rfl | assumption | (repeat first | assumption | rfl | refine aG_n ?_ rfl rfl)) ?_
      refine wp_cV (pc := 2) dX2_isKnown_2 lk_2_50 rfl (by decide) rfl (by first | rfl | assumption | exact sh_house (by omega) | exact sh_wish (by omega) | exact sh_wor (by omega) | exact sh_bar (by omega) | exact sh_term (by omega) | exact sh_sheet (by omega) | exact sh_items (by omega) | exact sh_sums (by omega)) rfl rfl ?_
      refine wp_aload_n (pc := 0) dX2_hasHappened_0 (by first | rfl | assumption | (repeat first | assumption | rfl | refine aG_n ?_ rfl rfl)) ?_
      refine wp_getR (pc := 1) dX2_hasHappened_1 fl_2_21 (by first | rfl | assumption | exact sh_house (by omega) | exact sh_wish (by omega) | exact sh_wor (by omega) | exact sh_bar (by omega) | exact sh_term (by omega) | exact sh_sheet (by omega) | exact sh_items (by omega) | exact sh_sums (by omega)) rfl ?_
      refine wp_iload_n (pc := 4) dX2_hasHappened_4 (by first | rfl | assumption | (repeat first | assumption | rfl | refine aG_n ?_ rfl rfl)) ?_
      refine wp_iald (pc := 5) dX2_hasHappened_5 (by first | rfl | assumption | exact sh_house (by omega) | exact sh_wish (by omega) | exact sh_wor (by omega) | exact sh_bar (by omega) | exact sh_term (by omega) | exact sh_sheet (by omega) | exact sh_items (by omega) | exact sh_sums (by omega)) (vp_in_nI (by omega) (by decide)) ?_
      refine wp_iconst (pc := 6) (v := -1) dX2_hasHappened_6 (by decide) ?_
      refine wp_icmp_eq (pc := 7) (tgt := 14) dX2_hasHappened_7 rfl (fun q => absurd q (by rw [ce]; exact n1)) (fun _ => ?_)
      refine wp_iconst (pc := 10) (v := 1) dX2_hasHappened_10 (by decide) ?_
      refine wp_goto (pc := 11) (tgt := 15) dX2_hasHappened_11 rfl ?_
      refine wp_iretK (pc := 15) dX2_hasHappened_15 rfl (by first | rfl | decide | assumption) ?_
      refine wp_if_eq (pc := 5) (tgt := 22) dX2_isKnown_5 rfl (fun q => absurd q (by decide)) (fun _ => ?_)
      refine wp_aload_n (pc := 8) dX2_isKnown_8 (by first | rfl | assumption | (repeat first | assumption | rfl | refine aG_n ?_ rfl rfl)) ?_
      refine wp_getR (pc := 9) dX2_isKnown_9 fl_2_24 (by first | rfl | assumption | exact sh_house (by omega) | exact sh_wish (by omega) | exact sh_wor (by omega) | exact sh_bar (by omega) | exact sh_term (by omega) | exact sh_sheet (by omega) | exact sh_items (by omega) | exact sh_sums (by omega)) rfl ?_
      refine wp_iload_n (pc := 12) dX2_isKnown_12 (by first | rfl | assumption | (repeat first | assumption | rfl | refine aG_n ?_ rfl rfl)) ?_
      refine wp_iald (pc := 13) dX2_isKnown_13 (by first | rfl | assumption | exact sh_house (by omega) | exact sh_wish (by omega) | exact sh_wor (by omega) | exact sh_bar (by omega) | exact sh_term (by omega) | exact sh_sheet (by omega) | exact sh_items (by omega) | exact sh_sums (by omega)) (vp_in_nI (by omega) (by decide)) ?_
      refine wp_iload_n (pc := 14) dX2_isKnown_14 (by first | rfl | assumption | (repeat first | assumption | rfl | refine aG_n ?_ rfl rfl)) ?_
      refine wp_icmp_gt (pc := 15) (tgt := 22) dX2_isKnown_15 rfl (fun _ => ?_) (fun q => absurd (by rw [ce, z3]; exact i_nle2 c) q)
      refine wp_iconst (pc := 22) (v := 0) dX2_isKnown_22 (by decide) ?_
      refine wp_ireturn (pc := 23) dX2_isKnown_23 rfl (by first | rfl | decide | assumption) ?_
      exact kf (fun z => c z.2)
theorem c_X12_isKnown (he : e < 10) (kt : knP μ.1 e h → Q (some (.int 1)) μ) (kf : ¬ knP μ.1 e h → Q (some (.int 0)) μ) : WP X mX12_isKnown 0 (lv_args 0 [.ref 86, .int (nI e), .int h]) [] μ Q := by
  have ce : (nI e).toNatClampNeg = e := nI_clamp (by omega)
  by_cases c0 : μ.1 118 e = -4
  · refine wp_aload_n (pc := 0) dX12_isKnown_0 (by first | rfl | assumption | (repeat first | assumption | rfl | refine aG_n ?_ rfl rfl)) ?_
    refine wp_getR (pc := 1) dX12_isKnown_1 fl_12_104 (by first | rfl | assumption | exact sh_house (by omega) | exact sh_wish (by omega) | exact sh_wor (by omega) | exact sh_bar (by omega) | exact sh_term (by omega) | exact sh_sheet (by omega) | exact sh_items (by omega) | exact sh_sums (by omega)) rfl ?_
    refine wp_iload_n (pc := 4) dX12_isKnown_4 (by first | rfl | assumption | (repeat first | assumption | rfl | refine aG_n ?_ rfl rfl)) ?_
    refine wp_iald (pc := 5) dX12_isKnown_5 (by first | rfl | assumption | exact sh_house (by omega) | exact sh_wish (by omega) | exact sh_wor (by omega) | exact sh_bar (by omega) | exact sh_term (by omega) | exact sh_sheet (by omega) | exact sh_items (by omega) | exact sh_sums (by omega)) (vp_in_nI (by omega) (by decide)) ?_
    refine wp_bipush (pc := 6) (v := -4) dX12_isKnown_6 (by decide) ?_
    refine wp_icmp_eq (pc := 8) (tgt := 25) dX12_isKnown_8 rfl (fun _ => ?_) (fun q => absurd (by rw [ce]; exact c0) q)
    refine wp_iconst (pc := 25) (v := 0) dX12_isKnown_25 (by decide) ?_
    refine wp_ireturn (pc := 26) dX12_isKnown_26 rfl (by first | rfl | decide | assumption) ?_
    exact kf (fun z => z.1 c0)
  · by_cases c : μ.1 119 e ≤ h
    · refine wp_aload_n (pc := 0) dX12_isKnown_0 (by first | rfl | assumption | (repeat first | assumption | rfl | refine aG_n ?_ rfl rfl)) ?_
      refine wp_getR (pc := 1) dX12_isKnown_1 fl_12_104 (by first | rfl | assumption | exact sh_house (by omega) | exact sh_wish (by omega) | exact sh_wor (by omega) | exact sh_bar (by omega) | exact sh_term (by omega) | exact sh_sheet (by omega) | exact sh_items (by omega) | exact sh_sums (by omega)) rfl ?_
      refine wp_iload_n (pc := 4) dX12_isKnown_4 (by first | rfl | assumption | (repeat first | assumption | rfl | refine aG_n ?_ rfl rfl)) ?_
      refine wp_iald (pc := 5) dX12_isKnown_5 (by first | rfl | assumption | exact sh_house (by omega) | exact sh_wish (by omega) | exact sh_wor (by omega) | exact sh_bar (by omega) | exact sh_term (by omega) | exact sh_sheet (by omega) | exact sh_items (by omega) | exact sh_sums (by omega)) (vp_in_nI (by omega) (by decide)) ?_
      refine wp_bipush (pc := 6) (v := -4) dX12_isKnown_6 (by decide) ?_
      refine wp_icmp_eq (pc := 8) (tgt := 25) dX12_isKnown_8 rfl (fun q => absurd q (by rw [ce]; exact c0)) (fun _ => ?_)
      refine wp_aload_n (pc := 11) dX12_isKnown_11 (by first | rfl | assumption | (repeat first | assumption | rfl | refine aG_n ?_ rfl rfl)) ?_
      refine wp_getR (pc := 12) dX12_isKnown_12 fl_12_107 (by first | rfl | assumption | exact sh_house (by omega) | exact sh_wish (by omega) | exact sh_wor (by omega) | exact sh_bar (by omega) | exact sh_term (by omega) | exact sh_sheet (by omega) | exact sh_items (by omega) | exact sh_sums (by omega)) rfl ?_
      refine wp_iload_n (pc := 15) dX12_isKnown_15 (by first | rfl | assumption | (repeat first | assumption | rfl | refine aG_n ?_ rfl rfl)) ?_
      refine wp_iald (pc := 16) dX12_isKnown_16 (by first | rfl | assumption | exact sh_house (by omega) | exact sh_wish (by omega) | exact sh_wor (by omega) | exact sh_bar (by omega) | exact sh_term (by omega) | exact sh_sheet (by omega) | exact sh_items (by omega) | exact sh_sums (by omega)) (vp_in_nI (by omega) (by decide)) ?_
      refine wp_iload_n (pc := 17) dX12_isKnown_17 (by first | rfl | assumption | (repeat first | assumption | rfl | refine aG_n ?_ rfl rfl)) ?_
      refine wp_icmp_gt (pc := 18) (tgt := 25) dX12_isKnown_18 rfl (fun q => absurd q (by rw [ce]; exact fun z => i_nle z c)) (fun _ => ?_)
      refine wp_iconst (pc := 21) (v := 1) dX12_isKnown_21 (by decide) ?_
      refine wp_goto (pc := 22) (tgt := 26) dX12_isKnown_22 rfl ?_
      refine wp_ireturn (pc := 26) dX12_isKnown_26 rfl (by first | rfl | decide | assumption) ?_
      exact kt ⟨c0, c⟩
    · refine wp_aload_n (pc := 0) dX12_isKnown_0 (by first | rfl | assumption | (repeat first | assumption | rfl | refine aG_n ?_ rfl rfl)) ?_
      refine wp_getR (pc := 1) dX12_isKnown_1 fl_12_104 (by first | rfl | assumption | exact sh_house (by omega) | exact sh_wish (by omega) | exact sh_wor (by omega) | exact sh_bar (by omega) | exact sh_term (by omega) | exact sh_sheet (by omega) | exact sh_items (by omega) | exact sh_sums (by omega)) rfl ?_
      refine wp_iload_n (pc := 4) dX12_isKnown_4 (by first | rfl | assumption | (repeat first | assumption | rfl | refine aG_n ?_ rfl rfl)) ?_
      refine wp_iald (pc := 5) dX12_isKnown_5 (by first | rfl | assumption | exact sh_house (by omega) | exact sh_wish (by omega) | exact sh_wor (by omega) | exact sh_bar (by omega) | exact sh_term (by omega) | exact sh_sheet (by omega) | exact sh_items (by omega) | exact sh_sums (by omega)) (vp_in_nI (by omega) (by decide)) ?_
      refine wp_bipush (pc := 6) (v := -4) dX12_isKnown_6 (by decide) ?_
      refine wp_icmp_eq (pc := 8) (tgt := 25) dX12_isKnown_8 rfl (fun q => absurd q (by rw [ce]; exact c0)) (fun _ => ?_)
      refine wp_aload_n (pc := 11) dX12_isKnown_11 (by first | rfl | assumption | (repeat first | assumption | rfl | refine aG_n ?_ rfl rfl)) ?_
      refine wp_getR (pc := 12) dX12_isKnown_12 fl_12_107 (by first | rfl | assumption | exact sh_house (by omega) | exact sh_wish (by omega) | exact sh_wor (by omega) | exact sh_bar (by omega) | exact sh_term (by omega) | exact sh_sheet (by omega) | exact sh_items (by omega) | exact sh_sums (by omega)) rfl ?_
      refine wp_iload_n (pc := 15) dX12_isKnown_15 (by first | rfl | assumption | (repeat first | assumption | rfl | refine aG_n ?_ rfl rfl)) ?_
      refine wp_iald (pc := 16) dX12_isKnown_16 (by first | rfl | assumption | exact sh_house (by omega) | exact sh_wish (by omega) | exact sh_wor (by omega) | exact sh_bar (by omega) | exact sh_term (by omega) | exact sh_sheet (by omega) | exact sh_items (by omega) | exact sh_sums (by omega)) (vp_in_nI (by omega) (by decide)) ?_
      refine wp_iload_n (pc := 17) dX12_isKnown_17 (by first | rfl | assumption | (repeat first | assumption | rfl | refine aG_n ?_ rfl rfl)) ?_
      refine wp_icmp_gt (pc := 18) (tgt := 25) dX12_isKnown_18 rfl (fun _ => ?_) (fun q => absurd (by rw [ce]; exact i_nle2 c) q)
      refine wp_iconst (pc := 25) (v := 0) dX12_isKnown_25 (by decide) ?_
      refine wp_ireturn (pc := 26) dX12_isKnown_26 rfl (by first | rfl | decide | assumption) ?_
      exact kf (fun z => c z.2)
theorem c_X9_isPaidBy (ht : t < 16) (hp : (μ.1 (36 + t) 6 = -1 ∧ μ.1 117 t = -4) ∨ (μ.1 (36 + t) 6 = μ.1 117 t ∧ inR (μ.1 117 t) 0 9999)) (kt : pdP μ.1 t h → Q (some (.int 1)) μ) (kf : ¬ pdP μ.1 t h → Q (some (.int 0)) μ) : WP X mX9_isPaidBy 0 (lv_args 0 [.ref (36 + t), .int h]) [] μ Q := by
  rcases hp with ⟨z1, z2⟩ | ⟨z1, z2⟩
  · refine wp_aload_n (pc := 0) dX9_isPaidBy_0 (by first | rfl | assumption | (repeat first | assumption | rfl | refine aG_n ?_ rfl rfl)) ?_
    refine wp_cV (pc := 1) dX9_isPaidBy_1 lk_9_13 rfl (by decide) rfl (by first | rfl | assumption | exact sh_house (by omega) | exact sh_wish (by omega) | exact sh_wor (by omega) | exact sh_bar (by omega) | exact sh_term (by omega) | exact sh_sheet (by omega) | exact sh_items (by omega) | exact sh_sums (by omega)) rfl rfl ?_
    refine wp_aload_n (pc := 0) dX9_isPaid_0 (by first | rfl | assumption | (repeat first | assumption | rfl | refine aG_n ?_ rfl rfl)) ?_
    refine wp_getI (pc := 1) dX9_isPaid_1 fl_9_9 (by first | rfl | assumption | exact sh_house (by omega) | exact sh_wish (by omega) | exact sh_wor (by omega) | exact sh_bar (by omega) | exact sh_term (by omega) | exact sh_sheet (by omega) | exact sh_items (by omega) | exact sh_sums (by omega)) rfl ?_
    refine wp_iconst (pc := 4) (v := -1) dX9_isPaid_4 (by decide) ?_
    refine wp_icmp_eq (pc := 5) (tgt := 12) dX9_isPaid_5 rfl (fun _ => ?_) (fun q => absurd z1 q)
    refine wp_iconst (pc := 12) (v := 0) dX9_isPaid_12 (by decide) ?_
    refine wp_iretK (pc := 13) dX9_isPaid_13 rfl (by first | rfl | decide | assumption) ?_
    refine wp_if_eq (pc := 4) (tgt := 19) dX9_isPaidBy_4 rfl (fun _ => ?_) (fun q => absurd q (by decide))
    refine wp_iconst (pc := 19) (v := 0) dX9_isPaidBy_19 (by decide) ?_
    refine wp_ireturn (pc := 20) dX9_isPaidBy_20 rfl (by first | rfl | decide | assumption) ?_
    exact kf (fun z => z.1 z2)
  · have n1 : ¬ μ.1 (36 + t) 6 = -1 := by rw [z1]; exact neg_in z2 (by decide)
    have n2 : ¬ μ.1 117 t = -4 := neg_in z2 (by decide)
    by_cases c : μ.1 117 t ≤ h
    · refine wp_aload_n (pc := 0) dX9_isPaidBy_0 (by first | rfl | assumption | (repeat first | assumption | rfl | refine aG_n ?_ rfl rfl)) ?_
      refine wp_cV (pc := 1) dX9_isPaidBy_1 lk_9_13 rfl (by decide) rfl (by first | rfl | assumption | exact sh_house (by omega) | exact sh_wish (by omega) | exact sh_wor (by omega) | exact sh_bar (by omega) | exact sh_term (by omega) | exact sh_sheet (by omega) | exact sh_items (by omega) | exact sh_sums (by omega)) rfl rfl ?_
      refine wp_aload_n (pc := 0) dX9_isPaid_0 (by first | rfl | assumption | (repeat first | assumption | rfl | refine aG_n ?_ rfl rfl)) ?_
      refine wp_getI (pc := 1) dX9_isPaid_1 fl_9_9 (by first | rfl | assumption | exact sh_house (by omega) | exact sh_wish (by omega) | exact sh_wor (by omega) | exact sh_bar (by omega) | exact sh_term (by omega) | exact sh_sheet (by omega) | exact sh_items (by omega) | exact sh_sums (by omega)) rfl ?_
      refine wp_iconst (pc := 4) (v := -1) dX9_isPaid_4 (by decide) ?_
      refine wp_icmp_eq (pc := 5) (tgt := 12) dX9_isPaid_5 rfl (fun q => absurd q n1) (fun _ => ?_)
      refine wp_iconst (pc := 8) (v := 1) dX9_isPaid_8 (by decide) ?_
      refine wp_goto (pc := 9) (tgt := 13) dX9_isPaid_9 rfl ?_
      refine wp_iretK (pc := 13) dX9_isPaid_13 rfl (by first | rfl | decide | assumption) ?_
      refine wp_if_eq (pc := 4) (tgt := 19) dX9_isPaidBy_4 rfl (fun q => absurd q (by decide)) (fun _ => ?_)
      refine wp_aload_n (pc := 7) dX9_isPaidBy_7 (by first | rfl | assumption | (repeat first | assumption | rfl | refine aG_n ?_ rfl rfl)) ?_
      refine wp_getI (pc := 8) dX9_isPaidBy_8 fl_9_9 (by first | rfl | assumption | exact sh_house (by omega) | exact sh_wish (by omega) | exact sh_wor (by omega) | exact sh_bar (by omega) | exact sh_term (by omega) | exact sh_sheet (by omega) | exact sh_items (by omega) | exact sh_sums (by omega)) rfl ?_
      refine wp_iload_n (pc := 11) dX9_isPaidBy_11 (by first | rfl | assumption | (repeat first | assumption | rfl | refine aG_n ?_ rfl rfl)) ?_
      refine wp_icmp_gt (pc := 12) (tgt := 19) dX9_isPaidBy_12 rfl (fun q => absurd q (by rw [z1]; exact fun z => i_nle z c)) (fun _ => ?_)
      refine wp_iconst (pc := 15) (v := 1) dX9_isPaidBy_15 (by decide) ?_
      refine wp_goto (pc := 16) (tgt := 20) dX9_isPaidBy_16 rfl ?_
      refine wp_ireturn (pc := 20) dX9_isPaidBy_20 rfl (by first | rfl | decide | assumption) ?_
      exact kt ⟨n2, c⟩
    · refine wp_aload_n (pc := 0) dX9_isPaidBy_0 (by first | rfl | assumption | (repeat first | assumption | rfl | refine aG_n ?_ rfl rfl)) ?_
      refine wp_cV (pc := 1) dX9_isPaidBy_1 lk_9_13 rfl (by decide) rfl (by first | rfl | assumption | exact sh_house (by omega) | exact sh_wish (by omega) | exact sh_wor (by omega) | exact sh_bar (by omega) | exact sh_term (by omega) | exact sh_sheet (by omega) | exact sh_items (by omega) | exact sh_sums (by omega)) rfl rfl ?_
      refine wp_aload_n (pc := 0) dX9_isPaid_0 (by first | rfl | assumption | (repeat first | assumption | rfl | refine aG_n ?_ rfl rfl)) ?_
      refine wp_getI (pc := 1) dX9_isPaid_1 fl_9_9 (by first | rfl | assumption | exact sh_house (by omega) | exact sh_wish (by omega) | exact sh_wor (by omega) | exact sh_bar (by omega) | exact sh_term (by omega) | exact sh_sheet (by omega) | exact sh_items (by omega) | exact sh_sums (by omega)) rfl ?_
      refine wp_iconst (pc := 4) (v := -1) dX9_isPaid_4 (by decide) ?_
      refine wp_icmp_eq (pc := 5) (tgt := 12) dX9_isPaid_5 rfl (fun q => absurd q n1) (fun _ => ?_)
      refine wp_iconst (pc := 8) (v := 1) dX9_isPaid_8 (by decide) ?_
      refine wp_goto (pc := 9) (tgt := 13) dX9_isPaid_9 rfl ?_
      refine wp_iretK (pc := 13) dX9_isPaid_13 rfl (by first | rfl | decide | assumption) ?_
      refine wp_if_eq (pc := 4) (tgt := 19) dX9_isPaidBy_4 rfl (fun q => absurd q (by decide)) (fun _ => ?_)
      refine wp_aload_n (pc := 7) dX9_isPaidBy_7 (by first | rfl | assumption | (repeat first | assumption | rfl | refine aG_n ?_ rfl rfl)) ?_
      refine wp_getI (pc := 8) dX9_isPaidBy_8 fl_9_9 (by first | rfl | assumption | exact sh_house (by omega) | exact sh_wish (by omega) | exact sh_wor (by omega) | exact sh_bar (by omega) | exact sh_term (by omega) | exact sh_sheet (by omega) | exact sh_items (by omega) | exact sh_sums (by omega)) rfl ?_
      refine wp_iload_n (pc := 11) dX9_isPaidBy_11 (by first | rfl | assumption | (repeat first | assumption | rfl | refine aG_n ?_ rfl rfl)) ?_
      refine wp_icmp_gt (pc := 12) (tgt := 19) dX9_isPaidBy_12 rfl (fun _ => ?_) (fun q => absurd (by rw [z1]; exact i_nle2 c) q)
      refine wp_iconst (pc := 19) (v := 0) dX9_isPaidBy_19 (by decide) ?_
      refine wp_ireturn (pc := 20) dX9_isPaidBy_20 rfl (by first | rfl | decide | assumption) ?_
      exact kf (fun z => c z.2)
theorem c_X2_stateOf (hL : LT μ.1 n) (ht : t < n) (k : Q (some (.int (stV μ.1 h (μ.1 33 t) t))) μ) : WP X mX2_stateOf 0 (lv_args 0 [.ref 31, .int (nI t), .int h]) [] μ Q := by
  have ht16 : t < 16 := Nat.lt_of_lt_of_le ht hL.1
  obtain ⟨⟨f0, f1, f3, f4, f5⟩, g1, g2, g3, g4⟩ := hL.2.2.2.1 t ht
  have ct : (nI t).toNatClampNeg = t := nI_clamp (by omega)
  unfold stV at k
  by_cases c1 : μ.1 111 t = 3
  · rw [if_pos c1] at k
    obtain ⟨e, he, ee⟩ := g1 (Or.inr c1)
    rw [abt_e (by omega) ee] at k
    by_cases c2 : knP μ.1 e h
    · rw [if_pos c2] at k
      refine wp_aload_n (pc := 0) dX2_stateOf_0 (by first | rfl | assumption | (repeat first | assumption | rfl | refine aG_n ?_ rfl rfl)) ?_
      refine wp_getR (pc := 1) dX2_stateOf_1 fl_2_13 (by first | rfl | assumption | exact sh_house (by omega) | exact sh_wish (by omega) | exact sh_wor (by omega) | exact sh_bar (by omega) | exact sh_term (by omega) | exact sh_sheet (by omega) | exact sh_items (by omega) | exact sh_sums (by omega)) rfl ?_
      refine wp_iload_n (pc := 4) dX2_stateOf_4 (by first | rfl | assumption | (repeat first | assumption | rfl | refine aG_n ?_ rfl rfl)) ?_
      refine wp_aald (pc := 5) dX2_stateOf_5 (by first | rfl | assumption | exact sh_house (by omega) | exact sh_wish (by omega) | exact sh_wor (by omega) | exact sh_bar (by omega) | exact sh_term (by omega) | exact sh_sheet (by omega) | exact sh_items (by omega) | exact sh_sums (by omega)) (vp_in_nI (by omega) (by decide)) (by decide) (el_term (by omega)) ?_
      refine wp_astore_n (pc := 6) dX2_stateOf_6 (by decide) ?_
      refine wp_aload_n (pc := 7) dX2_stateOf_7 (by first | rfl | assumption | (repeat first | assumption | rfl | refine aG_n ?_ rfl rfl)) ?_
      refine wp_getI (pc := 8) dX2_stateOf_8 fl_2_32 (by first | rfl | assumption | exact sh_house (by omega) | exact sh_wish (by omega) | exact sh_wor (by omega) | exact sh_bar (by omega) | exact sh_term (by omega) | exact sh_sheet (by omega) | exact sh_items (by omega) | exact sh_sums (by omega)) rfl ?_
      refine wp_iconst (pc := 11) (v := 3) dX2_stateOf_11 (by decide) ?_
      refine wp_icmp_ne (pc := 12) (tgt := 33) dX2_stateOf_12 rfl (fun q => absurd (f0.trans c1) q) (fun _ => ?_)
      refine wp_aload_n (pc := 15) dX2_stateOf_15 (by first | rfl | assumption | (repeat first | assumption | rfl | refine aG_n ?_ rfl rfl)) ?_
      refine wp_aload_n (pc := 16) dX2_stateOf_16 (by first | rfl | assumption | (repeat first | assumption | rfl | refine aG_n ?_ rfl rfl)) ?_
      refine wp_getI (pc := 17) dX2_stateOf_17 fl_2_44 (by first | rfl | assumption | exact sh_house (by omega) | exact sh_wish (by omega) | exact sh_wor (by omega) | exact sh_bar (by omega) | exact sh_term (by omega) | exact sh_sheet (by omega) | exact sh_items (by omega) | exact sh_sums (by omega)) rfl ?_
      refine wp_iload_n (pc := 20) dX2_stateOf_20 (by first | rfl | assumption | (repeat first | assumption | rfl | refine aG_n ?_ rfl rfl)) ?_
      refine wp_cV (pc := 21) dX2_stateOf_21 lk_2_58 rfl (by decide) rfl (by first | rfl | assumption | exact sh_house (by omega) | exact sh_wish (by omega) | exact sh_wor (by omega) | exact sh_bar (by omega) | exact sh_term (by omega) | exact sh_sheet (by omega) | exact sh_items (by omega) | exact sh_sums (by omega)) rfl rfl ?_
      rw [f4, ee]
      refine c_X2_isKnown hL he (fun _ => aK_i ?_) (fun q => absurd c2 q)
      refine wp_if_eq (pc := 24) (tgt := 31) dX2_stateOf_24 rfl (fun q => absurd q (by decide)) (fun _ => ?_)
      refine wp_iconst (pc := 27) (v := 4) dX2_stateOf_27 (by decide) ?_
      refine wp_goto (pc := 28) (tgt := 32) dX2_stateOf_28 rfl ?_
      refine wp_ireturn (pc := 32) dX2_stateOf_32 rfl (by first | rfl | decide | assumption) ?_
      exact k
    · rw [if_neg c2] at k
      refine wp_aload_n (pc := 0) dX2_stateOf_0 (by first | rfl | assumption | (repeat first | assumption | rfl | refine aG_n ?_ rfl rfl)) ?_
      refine wp_getR (pc := 1) dX2_stateOf_1 fl_2_13 (by first | rfl | assumption | exact sh_house (by omega) | exact sh_wish (by omega) | exact sh_wor (by omega) | exact sh_bar (by omega) | exact sh_term (by omega) | exact sh_sheet (by omega) | exact sh_items (by omega) | exact sh_sums (by omega)) rfl ?_
      refine wp_iload_n (pc := 4) dX2_stateOf_4 (by first | rfl | assumption | (repeat first | assumption | rfl | refine aG_n ?_ rfl rfl)) ?_
      refine wp_aald (pc := 5) dX2_stateOf_5 (by first | rfl | assumption | exact sh_house (by omega) | exact sh_wish (by omega) | exact sh_wor (by omega) | exact sh_bar (by omega) | exact sh_term (by omega) | exact sh_sheet (by omega) | exact sh_items (by omega) | exact sh_sums (by omega)) (vp_in_nI (by omega) (by decide)) (by decide) (el_term (by omega)) ?_
      refine wp_astore_n (pc := 6) dX2_stateOf_6 (by decide) ?_
      refine wp_aload_n (pc := 7) dX2_stateOf_7 (by first | rfl | assumption | (repeat first | assumption | rfl | refine aG_n ?_ rfl rfl)) ?_
      refine wp_getI (pc := 8) dX2_stateOf_8 fl_2_32 (by first | rfl | assumption | exact sh_house (by omega) | exact sh_wish (by omega) | exact sh_wor (by omega) | exact sh_bar (by omega) | exact sh_term (by omega) | exact sh_sheet (by omega) | exact sh_items (by omega) | exact sh_sums (by omega)) rfl ?_
      refine wp_iconst (pc := 11) (v := 3) dX2_stateOf_11 (by decide) ?_
      refine wp_icmp_ne (pc := 12) (tgt := 33) dX2_stateOf_12 rfl (fun q => absurd (f0.trans c1) q) (fun _ => ?_)
      refine wp_aload_n (pc := 15) dX2_stateOf_15 (by first | rfl | assumption | (repeat first | assumption | rfl | refine aG_n ?_ rfl rfl)) ?_
      refine wp_aload_n (pc := 16) dX2_stateOf_16 (by first | rfl | assumption | (repeat first | assumption | rfl | refine aG_n ?_ rfl rfl)) ?_
      refine wp_getI (pc := 17) dX2_stateOf_17 fl_2_44 (by first | rfl | assumption | exact sh_house (by omega) | exact sh_wish (by omega) | exact sh_wor (by omega) | exact sh_bar (by omega) | exact sh_term (by omega) | exact sh_sheet (by omega) | exact sh_items (by omega) | exact sh_sums (by omega)) rfl ?_
      refine wp_iload_n (pc := 20) dX2_stateOf_20 (by first | rfl | assumption | (repeat first | assumption | rfl | refine aG_n ?_ rfl rfl)) ?_
      refine wp_cV (pc := 21) dX2_stateOf_21 lk_2_58 rfl (by decide) rfl (by first | rfl | assumption | exact sh_house (by omega) | exact sh_wish (by omega) | exact sh_wor (by omega) | exact sh_bar (by omega) | exact sh_term (by omega) | exact sh_sheet (by omega) | exact sh_items (by omega) | exact sh_sums (by omega)) rfl rfl ?_
      rw [f4, ee]
      refine c_X2_isKnown hL he (fun q => absurd q c2) (fun _ => aK_i ?_)
      refine wp_if_eq (pc := 24) (tgt := 31) dX2_stateOf_24 rfl (fun _ => ?_) (fun q => absurd rfl q)
      refine wp_iconst (pc := 31) (v := 1) dX2_stateOf_31 (by decide) ?_
      refine wp_ireturn (pc := 32) dX2_stateOf_32 rfl (by first | rfl | decide | assumption) ?_
      exact k
  · rw [if_neg c1] at k
    by_cases c3 : μ.1 33 t = -4
    · rw [if_pos c3] at k
      refine wp_aload_n (pc := 0) dX2_stateOf_0 (by first | rfl | assumption | (repeat first | assumption | rfl | refine aG_n ?_ rfl rfl)) ?_
      refine wp_getR (pc := 1) dX2_stateOf_1 fl_2_13 (by first | rfl | assumption | exact sh_house (by omega) | exact sh_wish (by omega) | exact sh_wor (by omega) | exact sh_bar (by omega) | exact sh_term (by omega) | exact sh_sheet (by omega) | exact sh_items (by omega) | exact sh_sums (by omega)) rfl ?_
      refine wp_iload_n (pc := 4) dX2_stateOf_4 (by first | rfl | assumption | (repeat first | assumption | rfl | refine aG_n ?_ rfl rfl)) ?_
      refine wp_aald (pc := 5) dX2_stateOf_5 (by first | rfl | assumption | exact sh_house (by omega) | exact sh_wish (by omega) | exact sh_wor (by omega) | exact sh_bar (by omega) | exact sh_term (by omega) | exact sh_sheet (by omega) | exact sh_items (by omega) | exact sh_sums (by omega)) (vp_in_nI (by omega) (by decide)) (by decide) (el_term (by omega)) ?_
      refine wp_astore_n (pc := 6) dX2_stateOf_6 (by decide) ?_
      refine wp_aload_n (pc := 7) dX2_stateOf_7 (by first | rfl | assumption | (repeat first | assumption | rfl | refine aG_n ?_ rfl rfl)) ?_
      refine wp_getI (pc := 8) dX2_stateOf_8 fl_2_32 (by first | rfl | assumption | exact sh_house (by omega) | exact sh_wish (by omega) | exact sh_wor (by omega) | exact sh_bar (by omega) | exact sh_term (by omega) | exact sh_sheet (by omega) | exact sh_items (by omega) | exact sh_sums (by omega)) rfl ?_
      refine wp_iconst (pc := 11) (v := 3) dX2_stateOf_11 (by decide) ?_
      refine wp_icmp_ne (pc := 12) (tgt := 33) dX2_stateOf_12 rfl (fun _ => ?_) (fun q => absurd q (by rw [f0]; exact c1))
      refine wp_aload_n (pc := 33) dX2_stateOf_33 (by first | rfl | assumption | (repeat first | assumption | rfl | refine aG_n ?_ rfl rfl)) ?_
      refine wp_getR (pc := 34) dX2_stateOf_34 fl_2_17 (by first | rfl | assumption | exact sh_house (by omega) | exact sh_wish (by omega) | exact sh_wor (by omega) | exact sh_bar (by omega) | exact sh_term (by omega) | exact sh_sheet (by omega) | exact sh_items (by omega) | exact sh_sums (by omega)) rfl ?_
      refine wp_iload_n (pc := 37) dX2_stateOf_37 (by first | rfl | assumption | (repeat first | assumption | rfl | refine aG_n ?_ rfl rfl)) ?_
      refine wp_iald (pc := 38) dX2_stateOf_38 (by first | rfl | assumption | exact sh_house (by omega) | exact sh_wish (by omega) | exact sh_wor (by omega) | exact sh_bar (by omega) | exact sh_term (by omega) | exact sh_sheet (by omega) | exact sh_items (by omega) | exact sh_sums (by omega)) (vp_in_nI (by omega) (by decide)) ?_
      refine wp_istore (pc := 39) dX2_stateOf_39 (by decide) ?_
      refine wp_iload (pc := 41) dX2_stateOf_41 (by first | rfl | assumption | (repeat first | assumption | rfl | refine aG_n ?_ rfl rfl)) ?_
      refine wp_bipush (pc := 43) (v := -4) dX2_stateOf_43 (by decide) ?_
      refine wp_icmp_ne (pc := 45) (tgt := 50) dX2_stateOf_45 rfl (fun q => absurd (by rw [ct]; exact c3) q) (fun _ => ?_)
      refine wp_iconst (pc := 48) (v := 1) dX2_stateOf_48 (by decide) ?_
      refine wp_ireturn (pc := 49) dX2_stateOf_49 rfl (by first | rfl | decide | assumption) ?_
      exact k
    · rw [if_neg c3] at k
      by_cases c4 : pdP μ.1 t h
      · rw [if_pos c4] at k
        have e6 : μ.1 (36 + t) 6 = μ.1 117 t := g4.elim (fun z => absurd z.2 c4.1) (fun z => z.1)
        by_cases c5 : μ.1 117 t ≤ μ.1 33 t
        · rw [if_pos c5] at k
          refine wp_aload_n (pc := 0) dX2_stateOf_0 (by first | rfl | assumption | (repeat first | assumption | rfl | refine aG_n ?_ rfl rfl)) ?_
          refine wp_getR (pc := 1) dX2_stateOf_1 fl_2_13 (by first | rfl | assumption | exact sh_house (by omega) | exact sh_wish (by omega) | exact sh_wor (by omega) | exact sh_bar (by omega) | exact sh_term (by omega) | exact sh_sheet (by omega) | exact sh_items (by omega) | exact sh_sums (by omega)) rfl ?_
          refine wp_iload_n (pc := 4) dX2_stateOf_4 (by first | rfl | assumption | (repeat first | assumption | rfl | refine aG_n ?_ rfl rfl)) ?_
          refine wp_aald (pc := 5) dX2_stateOf_5 (by first | rfl | assumption | exact sh_house (by omega) | exact sh_wish (by omega) | exact sh_wor (by omega) | exact sh_bar (by omega) | exact sh_term (by omega) | exact sh_sheet (by omega) | exact sh_items (by omega) | exact sh_sums (by omega)) (vp_in_nI (by omega) (by decide)) (by decide) (el_term (by omega)) ?_
          refine wp_astore_n (pc := 6) dX2_stateOf_6 (by decide) ?_
          refine wp_aload_n (pc := 7) dX2_stateOf_7 (by first | rfl | assumption | (repeat first | assumption | rfl | refine aG_n ?_ rfl rfl)) ?_
          refine wp_getI (pc := 8) dX2_stateOf_8 fl_2_32 (by first | rfl | assumption | exact sh_house (by omega) | exact sh_wish (by omega) | exact sh_wor (by omega) | exact sh_bar (by omega) | exact sh_term (by omega) | exact sh_sheet (by omega) | exact sh_items (by omega) | exact sh_sums (by omega)) rfl ?_
          refine wp_iconst (pc := 11) (v := 3) dX2_stateOf_11 (by decide) ?_
          refine wp_icmp_ne (pc := 12) (tgt := 33) dX2_stateOf_12 rfl (fun _ => ?_) (fun q => absurd q (by rw [f0]; exact c1))
          refine wp_aload_n (pc := 33) dX2_stateOf_33 (by first | rfl | assumption | (repeat first | assumption | rfl | refine aG_n ?_ rfl rfl)) ?_
          refine wp_getR (pc := 34) dX2_stateOf_34 fl_2_17 (by first | rfl | assumption | exact sh_house (by omega) | exact sh_wish (by omega) | exact sh_wor (by omega) | exact sh_bar (by omega) | exact sh_term (by omega) | exact sh_sheet (by omega) | exact sh_items (by omega) | exact sh_sums (by omega)) rfl ?_
          refine wp_iload_n (pc := 37) dX2_stateOf_37 (by first | rfl | assumption | (repeat first | assumption | rfl | refine aG_n ?_ rfl rfl)) ?_
          refine wp_iald (pc := 38) dX2_stateOf_38 (by first | rfl | assumption | exact sh_house (by omega) | exact sh_wish (by omega) | exact sh_wor (by omega) | exact sh_bar (by omega) | exact sh_term (by omega) | exact sh_sheet (by omega) | exact sh_items (by omega) | exact sh_sums (by omega)) (vp_in_nI (by omega) (by decide)) ?_
          refine wp_istore (pc := 39) dX2_stateOf_39 (by decide) ?_
          refine wp_iload (pc := 41) dX2_stateOf_41 (by first | rfl | assumption | (repeat first | assumption | rfl | refine aG_n ?_ rfl rfl)) ?_
          refine wp_bipush (pc := 43) (v := -4) dX2_stateOf_43 (by decide) ?_
          refine wp_icmp_ne (pc := 45) (tgt := 50) dX2_stateOf_45 rfl (fun _ => ?_) (fun q => absurd q (by rw [ct]; exact c3))
          refine wp_aload_n (pc := 50) dX2_stateOf_50 (by first | rfl | assumption | (repeat first | assumption | rfl | refine aG_n ?_ rfl rfl)) ?_
          refine wp_iload_n (pc := 51) dX2_stateOf_51 (by first | rfl | assumption | (repeat first | assumption | rfl | refine aG_n ?_ rfl rfl)) ?_
          refine wp_cV (pc := 52) dX2_stateOf_52 lk_2_66 rfl (by decide) rfl (by first | rfl | assumption | exact sh_house (by omega) | exact sh_wish (by omega) | exact sh_wor (by omega) | exact sh_bar (by omega) | exact sh_term (by omega) | exact sh_sheet (by omega) | exact sh_items (by omega) | exact sh_sums (by omega)) rfl rfl (c_X9_isPaidBy ht16 g4 (fun _ => aK_i ?_) (fun q => absurd c4 q))
          refine wp_if_eq (pc := 55) (tgt := 73) dX2_stateOf_55 rfl (fun q => absurd q (by decide)) (fun _ => ?_)
          refine wp_aload_n (pc := 58) dX2_stateOf_58 (by first | rfl | assumption | (repeat first | assumption | rfl | refine aG_n ?_ rfl rfl)) ?_
          refine wp_getI (pc := 59) dX2_stateOf_59 fl_2_69 (by first | rfl | assumption | exact sh_house (by omega) | exact sh_wish (by omega) | exact sh_wor (by omega) | exact sh_bar (by omega) | exact sh_term (by omega) | exact sh_sheet (by omega) | exact sh_items (by omega) | exact sh_sums (by omega)) rfl ?_
          refine wp_iload (pc := 62) dX2_stateOf_62 (by first | rfl | assumption | (repeat first | assumption | rfl | refine aG_n ?_ rfl rfl)) ?_
          refine wp_icmp_gt (pc := 64) (tgt := 71) dX2_stateOf_64 rfl (fun q => absurd q (by rw [ct, e6]; exact fun z => i_nle z c5)) (fun _ => ?_)
          refine wp_iconst (pc := 67) (v := 3) dX2_stateOf_67 (by decide) ?_
          refine wp_goto (pc := 68) (tgt := 72) dX2_stateOf_68 rfl ?_
          refine wp_ireturn (pc := 72) dX2_stateOf_72 rfl (by first | rfl | decide | assumption) ?_
          exact k
        · rw [if_neg c5] at k
          refine wp_aload_n (pc := 0) dX2_stateOf_0 (by first | rfl | assumption | (repeat first | assumption | rfl | refine aG_n ?_ rfl rfl)) ?_
          refine wp_getR (pc := 1) dX2_stateOf_1 fl_2_13 (by first | rfl | assumption | exact sh_house (by omega) | exact sh_wish (by omega) | exact sh_wor (by omega) | exact sh_bar (by omega) | exact sh_term (by omega) | exact sh_sheet (by omega) | exact sh_items (by omega) | exact sh_sums (by omega)) rfl ?_
          refine wp_iload_n (pc := 4) dX2_stateOf_4 (by first | rfl | assumption | (repeat first | assumption | rfl | refine aG_n ?_ rfl rfl)) ?_
          refine wp_aald (pc := 5) dX2_stateOf_5 (by first | rfl | assumption | exact sh_house (by omega) | exact sh_wish (by omega) | exact sh_wor (by omega) | exact sh_bar (by omega) | exact sh_term (by omega) | exact sh_sheet (by omega) | exact sh_items (by omega) | exact sh_sums (by omega)) (vp_in_nI (by omega) (by decide)) (by decide) (el_term (by omega)) ?_
          refine wp_astore_n (pc := 6) dX2_stateOf_6 (by decide) ?_
          refine wp_aload_n (pc := 7) dX2_stateOf_7 (by first | rfl | assumption | (repeat first | assumption | rfl | refine aG_n ?_ rfl rfl)) ?_
          refine wp_getI (pc := 8) dX2_stateOf_8 fl_2_32 (by first | rfl | assumption | exact sh_house (by omega) | exact sh_wish (by omega) | exact sh_wor (by omega) | exact sh_bar (by omega) | exact sh_term (by omega) | exact sh_sheet (by omega) | exact sh_items (by omega) | exact sh_sums (by omega)) rfl ?_
          refine wp_iconst (pc := 11) (v := 3) dX2_stateOf_11 (by decide) ?_
          refine wp_icmp_ne (pc := 12) (tgt := 33) dX2_stateOf_12 rfl (fun _ => ?_) (fun q => absurd q (by rw [f0]; exact c1))
          refine wp_aload_n (pc := 33) dX2_stateOf_33 (by first | rfl | assumption | (repeat first | assumption | rfl | refine aG_n ?_ rfl rfl)) ?_
          refine wp_getR (pc := 34) dX2_stateOf_34 fl_2_17 (by first | rfl | assumption | exact sh_house (by omega) | exact sh_wish (by omega) | exact sh_wor (by omega) | exact sh_bar (by omega) | exact sh_term (by omega) | exact sh_sheet (by omega) | exact sh_items (by omega) | exact sh_sums (by omega)) rfl ?_
          refine wp_iload_n (pc := 37) dX2_stateOf_37 (by first | rfl | assumption | (repeat first | assumption | rfl | refine aG_n ?_ rfl rfl)) ?_
          refine wp_iald (pc := 38) dX2_stateOf_38 (by first | rfl | assumption | exact sh_house (by omega) | exact sh_wish (by omega) | exact sh_wor (by omega) | exact sh_bar (by omega) | exact sh_term (by omega) | exact sh_sheet (by omega) | exact sh_items (by omega) | exact sh_sums (by omega)) (vp_in_nI (by omega) (by decide)) ?_
          refine wp_istore (pc := 39) dX2_stateOf_39 (by decide) ?_
          refine wp_iload (pc := 41) dX2_stateOf_41 (by first | rfl | assumption | (repeat first | assumption | rfl | refine aG_n ?_ rfl rfl)) ?_
          refine wp_bipush (pc := 43) (v := -4) dX2_stateOf_43 (by decide) ?_
          refine wp_icmp_ne (pc := 45) (tgt := 50) dX2_stateOf_45 rfl (fun _ => ?_) (fun q => absurd q (by rw [ct]; exact c3))
          refine wp_aload_n (pc := 50) dX2_stateOf_50 (by first | rfl | assumption | (repeat first | assumption | rfl | refine aG_n ?_ rfl rfl)) ?_
          refine wp_iload_n (pc := 51) dX2_stateOf_51 (by first | rfl | assumption | (repeat first | assumption | rfl | refine aG_n ?_ rfl rfl)) ?_
          refine wp_cV (pc := 52) dX2_stateOf_52 lk_2_66 rfl (by decide) rfl (by first | rfl | assumption | exact sh_house (by omega) | exact sh_wish (by omega) | exact sh_wor (by omega) | exact sh_bar (by omega) | exact sh_term (by omega) | exact sh_sheet (by omega) | exact sh_items (by omega) | exact sh_sums (by omega)) rfl rfl (c_X9_isPaidBy ht16 g4 (fun _ => aK_i ?_) (fun q => absurd c4 q))
          refine wp_if_eq (pc := 55) (tgt := 73) dX2_stateOf_55 rfl (fun q => absurd q (by decide)) (fun _ => ?_)
          refine wp_aload_n (pc := 58) dX2_stateOf_58 (by first | rfl | assumption | (repeat first | assumption | rfl | refine aG_n ?_ rfl rfl)) ?_
          refine wp_getI (pc := 59) dX2_stateOf_59 fl_2_69 (by first | rfl | assumption | exact sh_house (by omega) | exact sh_wish (by omega) | exact sh_wor (by omega) | exact sh_bar (by omega) | exact sh_term (by omega) | exact sh_sheet (by omega) | exact sh_items (by omega) | exact sh_sums (by omega)) rfl ?_
          refine wp_iload (pc := 62) dX2_stateOf_62 (by first | rfl | assumption | (repeat first | assumption | rfl | refine aG_n ?_ rfl rfl)) ?_
          refine wp_icmp_gt (pc := 64) (tgt := 71) dX2_stateOf_64 rfl (fun _ => ?_) (fun q => absurd (by rw [ct, e6]; exact i_nle2 c5) q)
          refine wp_iconst (pc := 71) (v := 5) dX2_stateOf_71 (by decide) ?_
          refine wp_ireturn (pc := 72) dX2_stateOf_72 rfl (by first | rfl | decide | assumption) ?_
          exact k
      · rw [if_neg c4] at k
        by_cases c6 : μ.1 33 t < h
        · rw [if_pos c6] at k
          refine wp_aload_n (pc := 0) dX2_stateOf_0 (by first | rfl | assumption | (repeat first | assumption | rfl | refine aG_n ?_ rfl rfl)) ?_
          refine wp_getR (pc := 1) dX2_stateOf_1 fl_2_13 (by first | rfl | assumption | exact sh_house (by omega) | exact sh_wish (by omega) | exact sh_wor (by omega) | exact sh_bar (by omega) | exact sh_term (by omega) | exact sh_sheet (by omega) | exact sh_items (by omega) | exact sh_sums (by omega)) rfl ?_
          refine wp_iload_n (pc := 4) dX2_stateOf_4 (by first | rfl | assumption | (repeat first | assumption | rfl | refine aG_n ?_ rfl rfl)) ?_
          refine wp_aald (pc := 5) dX2_stateOf_5 (by first | rfl | assumption | exact sh_house (by omega) | exact sh_wish (by omega) | exact sh_wor (by omega) | exact sh_bar (by omega) | exact sh_term (by omega) | exact sh_sheet (by omega) | exact sh_items (by omega) | exact sh_sums (by omega)) (vp_in_nI (by omega) (by decide)) (by decide) (el_term (by omega)) ?_
          refine wp_astore_n (pc := 6) dX2_stateOf_6 (by decide) ?_
          refine wp_aload_n (pc := 7) dX2_stateOf_7 (by first | rfl | assumption | (repeat first | assumption | rfl | refine aG_n ?_ rfl rfl)) ?_
          refine wp_getI (pc := 8) dX2_stateOf_8 fl_2_32 (by first | rfl | assumption | exact sh_house (by omega) | exact sh_wish (by omega) | exact sh_wor (by omega) | exact sh_bar (by omega) | exact sh_term (by omega) | exact sh_sheet (by omega) | exact sh_items (by omega) | exact sh_sums (by omega)) rfl ?_
          refine wp_iconst (pc := 11) (v := 3) dX2_stateOf_11 (by decide) ?_
          refine wp_icmp_ne (pc := 12) (tgt := 33) dX2_stateOf_12 rfl (fun _ => ?_) (fun q => absurd q (by rw [f0]; exact c1))
          refine wp_aload_n (pc := 33) dX2_stateOf_33 (by first | rfl | assumption | (repeat first | assumption | rfl | refine aG_n ?_ rfl rfl)) ?_
          refine wp_getR (pc := 34) dX2_stateOf_34 fl_2_17 (by first | rfl | assumption | exact sh_house (by omega) | exact sh_wish (by omega) | exact sh_wor (by omega) | exact sh_bar (by omega) | exact sh_term (by omega) | exact sh_sheet (by omega) | exact sh_items (by omega) | exact sh_sums (by omega)) rfl ?_
          refine wp_iload_n (pc := 37) dX2_stateOf_37 (by first | rfl | assumption | (repeat first | assumption | rfl | refine aG_n ?_ rfl rfl)) ?_
          refine wp_iald (pc := 38) dX2_stateOf_38 (by first | rfl | assumption | exact sh_house (by omega) | exact sh_wish (by omega) | exact sh_wor (by omega) | exact sh_bar (by omega) | exact sh_term (by omega) | exact sh_sheet (by omega) | exact sh_items (by omega) | exact sh_sums (by omega)) (vp_in_nI (by omega) (by decide)) ?_
          refine wp_istore (pc := 39) dX2_stateOf_39 (by decide) ?_
          refine wp_iload (pc := 41) dX2_stateOf_41 (by first | rfl | assumption | (repeat first | assumption | rfl | refine aG_n ?_ rfl rfl)) ?_
          refine wp_bipush (pc := 43) (v := -4) dX2_stateOf_43 (by decide) ?_
          refine wp_icmp_ne (pc := 45) (tgt := 50) dX2_stateOf_45 rfl (fun _ => ?_) (fun q => absurd q (by rw [ct]; exact c3))
          refine wp_aload_n (pc := 50) dX2_stateOf_50 (by first | rfl | assumption | (repeat first | assumption | rfl | refine aG_n ?_ rfl rfl)) ?_
          refine wp_iload_n (pc := 51) dX2_stateOf_51 (by first | rfl | assumption | (repeat first | assumption | rfl | refine aG_n ?_ rfl rfl)) ?_
          refine wp_cV (pc := 52) dX2_stateOf_52 lk_2_66 rfl (by decide) rfl (by first | rfl | assumption | exact sh_house (by omega) | exact sh_wish (by omega) | exact sh_wor (by omega) | exact sh_bar (by omega) | exact sh_term (by omega) | exact sh_sheet (by omega) | exact sh_items (by omega) | exact sh_sums (by omega)) rfl rfl (c_X9_isPaidBy ht16 g4 (fun q => absurd q c4) (fun _ => aK_i ?_))
          refine wp_if_eq (pc := 55) (tgt := 73) dX2_stateOf_55 rfl (fun _ => ?_) (fun q => absurd q (by decide))
          refine wp_iload_n (pc := 73) dX2_stateOf_73 (by first | rfl | assumption | (repeat first | assumption | rfl | refine aG_n ?_ rfl rfl)) ?_
          refine wp_iload (pc := 74) dX2_stateOf_74 (by first | rfl | assumption | (repeat first | assumption | rfl | refine aG_n ?_ rfl rfl)) ?_
          refine wp_icmp_le (pc := 76) (tgt := 83) dX2_stateOf_76 rfl (fun q => absurd q (by rw [ct]; exact fun z => i_nle c6 z)) (fun _ => ?_)
          refine wp_iconst (pc := 79) (v := 4) dX2_stateOf_79 (by decide) ?_
          refine wp_goto (pc := 80) (tgt := 84) dX2_stateOf_80 rfl ?_
          refine wp_ireturn (pc := 84) dX2_stateOf_84 rfl (by first | rfl | decide | assumption) ?_
          exact k
        · rw [if_neg c6] at k
          refine wp_aload_n (pc := 0) dX2_stateOf_0 (by first | rfl | assumption | (repeat first | assumption | rfl | refine aG_n ?_ rfl rfl)) ?_
          refine wp_getR (pc := 1) dX2_stateOf_1 fl_2_13 (by first | rfl | assumption | exact sh_house (by omega) | exact sh_wish (by omega) | exact sh_wor (by omega) | exact sh_bar (by omega) | exact sh_term (by omega) | exact sh_sheet (by omega) | exact sh_items (by omega) | exact sh_sums (by omega)) rfl ?_
          refine wp_iload_n (pc := 4) dX2_stateOf_4 (by first | rfl | assumption | (repeat first | assumption | rfl | refine aG_n ?_ rfl rfl)) ?_
          refine wp_aald (pc := 5) dX2_stateOf_5 (by first | rfl | assumption | exact sh_house (by omega) | exact sh_wish (by omega) | exact sh_wor (by omega) | exact sh_bar (by omega) | exact sh_term (by omega) | exact sh_sheet (by omega) | exact sh_items (by omega) | exact sh_sums (by omega)) (vp_in_nI (by omega) (by decide)) (by decide) (el_term (by omega)) ?_
          refine wp_astore_n (pc := 6) dX2_stateOf_6 (by decide) ?_
          refine wp_aload_n (pc := 7) dX2_stateOf_7 (by first | rfl | assumption | (repeat first | assumption | rfl | refine aG_n ?_ rfl rfl)) ?_
          refine wp_getI (pc := 8) dX2_stateOf_8 fl_2_32 (by first | rfl | assumption | exact sh_house (by omega) | exact sh_wish (by omega) | exact sh_wor (by omega) | exact sh_bar (by omega) | exact sh_term (by omega) | exact sh_sheet (by omega) | exact sh_items (by omega) | exact sh_sums (by omega)) rfl ?_
          refine wp_iconst (pc := 11) (v := 3) dX2_stateOf_11 (by decide) ?_
          refine wp_icmp_ne (pc := 12) (tgt := 33) dX2_stateOf_12 rfl (fun _ => ?_) (fun q => absurd q (by rw [f0]; exact c1))
          refine wp_aload_n (pc := 33) dX2_stateOf_33 (by first | rfl | assumption | (repeat first | assumption | rfl | refine aG_n ?_ rfl rfl)) ?_
          refine wp_getR (pc := 34) dX2_stateOf_34 fl_2_17 (by first | rfl | assumption | exact sh_house (by omega) | exact sh_wish (by omega) | exact sh_wor (by omega) | exact sh_bar (by omega) | exact sh_term (by omega) | exact sh_sheet (by omega) | exact sh_items (by omega) | exact sh_sums (by omega)) rfl ?_
          refine wp_iload_n (pc := 37) dX2_stateOf_37 (by first | rfl | assumption | (repeat first | assumption | rfl | refine aG_n ?_ rfl rfl)) ?_
          refine wp_iald (pc := 38) dX2_stateOf_38 (by first | rfl | assumption | exact sh_house (by omega) | exact sh_wish (by omega) | exact sh_wor (by omega) | exact sh_bar (by omega) | exact sh_term (by omega) | exact sh_sheet (by omega) | exact sh_items (by omega) | exact sh_sums (by omega)) (vp_in_nI (by omega) (by decide)) ?_
          refine wp_istore (pc := 39) dX2_stateOf_39 (by decide) ?_
          refine wp_iload (pc := 41) dX2_stateOf_41 (by first | rfl | assumption | (repeat first | assumption | rfl | refine aG_n ?_ rfl rfl)) ?_
          refine wp_bipush (pc := 43) (v := -4) dX2_stateOf_43 (by decide) ?_
          refine wp_icmp_ne (pc := 45) (tgt := 50) dX2_stateOf_45 rfl (fun _ => ?_) (fun q => absurd q (by rw [ct]; exact c3))
          refine wp_aload_n (pc := 50) dX2_stateOf_50 (by first | rfl | assumption | (repeat first | assumption | rfl | refine aG_n ?_ rfl rfl)) ?_
          refine wp_iload_n (pc := 51) dX2_stateOf_51 (by first | rfl | assumption | (repeat first | assumption | rfl | refine aG_n ?_ rfl rfl)) ?_
          refine wp_cV (pc := 52) dX2_stateOf_52 lk_2_66 rfl (by decide) rfl (by first | rfl | assumption | exact sh_house (by omega) | exact sh_wish (by omega) | exact sh_wor (by omega) | exact sh_bar (by omega) | exact sh_term (by omega) | exact sh_sheet (by omega) | exact sh_items (by omega) | exact sh_sums (by omega)) rfl rfl (c_X9_isPaidBy ht16 g4 (fun q => absurd q c4) (fun _ => aK_i ?_))
          refine wp_if_eq (pc := 55) (tgt := 73) dX2_stateOf_55 rfl (fun _ => ?_) (fun q => absurd q (by decide))
          refine wp_iload_n (pc := 73) dX2_stateOf_73 (by first | rfl | assumption | (repeat first | assumption | rfl | refine aG_n ?_ rfl rfl)) ?_
          refine wp_iload (pc := 74) dX2_stateOf_74 (by first | rfl | assumption | (repeat first | assumption | rfl | refine aG_n ?_ rfl rfl)) ?_
          refine wp_icmp_le (pc := 76) (tgt := 83) dX2_stateOf_76 rfl (fun _ => ?_) (fun q => absurd (by rw [ct]; exact i_nlt c6) q)
          refine wp_iconst (pc := 83) (v := 2) dX2_stateOf_83 (by decide) ?_
          refine wp_ireturn (pc := 84) dX2_stateOf_84 rfl (by first | rfl | decide | assumption) ?_
          exact k
theorem stV_3 {M : MM} {e : Int32} (h3 : M 111 t = 3) : (stV M h e t = 4 ∧ knP M (abt M t) h) ∨ stV M h e t = 1 := by
  unfold stV
  rw [if_pos h3]
  split
  · exact Or.inl ⟨rfl, by assumption⟩
  · exact Or.inr rfl
theorem c_X2_breakOf (hL : LT μ.1 n) (ht : t < n) (k : Q (some (.int (brV μ.1 h (μ.1 33 t) t))) μ) : WP X mX2_breakOf 0 (lv_args 0 [.ref 31, .int (nI t), .int h]) [] μ Q := by
  have ht16 : t < 16 := Nat.lt_of_lt_of_le ht hL.1
  obtain ⟨⟨f0, f1, f3, f4, f5⟩, g1, g2, g3, g4⟩ := hL.2.2.2.1 t ht
  have ct : (nI t).toNatClampNeg = t := nI_clamp (by omega)
  unfold brV at k
  by_cases c1 : μ.1 111 t = 3
  · rw [if_pos c1] at k
    rcases stV_3 (h := h) (e := μ.1 33 t) c1 with ⟨s, hk⟩ | s
    · rw [if_pos (Or.inl s)] at k
      obtain ⟨e, he, ee⟩ := g1 (Or.inr c1)
      have ae := abt_e (by omega) ee
      rw [ae] at k hk
      have e34 : μ.1 34 e = μ.1 118 e := (hL.2.2.2.2 e he).elim (fun z => absurd z.2 hk.1) (fun z => z.1)
      have ce : (nI e).toNatClampNeg = e := nI_clamp (by omega)
      refine wp_aload_n (pc := 0) dX2_breakOf_0 (by first | rfl | assumption | (repeat first | assumption | rfl | refine aG_n ?_ rfl rfl)) ?_
      refine wp_iload_n (pc := 1) dX2_breakOf_1 (by first | rfl | assumption | (repeat first | assumption | rfl | refine aG_n ?_ rfl rfl)) ?_
      refine wp_iload_n (pc := 2) dX2_breakOf_2 (by first | rfl | assumption | (repeat first | assumption | rfl | refine aG_n ?_ rfl rfl)) ?_
      refine wp_cV (pc := 3) dX2_breakOf_3 lk_2_72 rfl (by decide) rfl (by first | rfl | assumption | exact sh_house (by omega) | exact sh_wish (by omega) | exact sh_wor (by omega) | exact sh_bar (by omega) | exact sh_term (by omega) | exact sh_sheet (by omega) | exact sh_items (by omega) | exact sh_sums (by omega)) rfl rfl (c_X2_stateOf hL ht (aK_i ?_))
      refine wp_istore_n (pc := 6) dX2_breakOf_6 (by decide) ?_
      refine wp_iload_n (pc := 7) dX2_breakOf_7 (by first | rfl | assumption | (repeat first | assumption | rfl | refine aG_n ?_ rfl rfl)) ?_
      refine wp_iconst (pc := 8) (v := 4) dX2_breakOf_8 (by decide) ?_
      refine wp_icmp_eq (pc := 9) (tgt := 20) dX2_breakOf_9 rfl (fun _ => ?_) (fun q => absurd s q)
      refine wp_aload_n (pc := 20) dX2_breakOf_20 (by first | rfl | assumption | (repeat first | assumption | rfl | refine aG_n ?_ rfl rfl)) ?_
      refine wp_iload_n (pc := 21) dX2_breakOf_21 (by first | rfl | assumption | (repeat first | assumption | rfl | refine aG_n ?_ rfl rfl)) ?_
      refine wp_cV (pc := 22) dX2_breakOf_22 lk_2_75 rfl (by decide) rfl (by first | rfl | assumption | exact sh_house (by omega) | exact sh_wish (by omega) | exact sh_wor (by omega) | exact sh_bar (by omega) | exact sh_term (by omega) | exact sh_sheet (by omega) | exact sh_items (by omega) | exact sh_sums (by omega)) rfl rfl ?_
      refine wp_aload_n (pc := 0) dX2_isBar_0 (by first | rfl | assumption | (repeat first | assumption | rfl | refine aG_n ?_ rfl rfl)) ?_
      refine wp_getR (pc := 1) dX2_isBar_1 fl_2_13 (by first | rfl | assumption | exact sh_house (by omega) | exact sh_wish (by omega) | exact sh_wor (by omega) | exact sh_bar (by omega) | exact sh_term (by omega) | exact sh_sheet (by omega) | exact sh_items (by omega) | exact sh_sums (by omega)) rfl ?_
      refine wp_iload_n (pc := 4) dX2_isBar_4 (by first | rfl | assumption | (repeat first | assumption | rfl | refine aG_n ?_ rfl rfl)) ?_
      refine wp_aald (pc := 5) dX2_isBar_5 (by first | rfl | assumption | exact sh_house (by omega) | exact sh_wish (by omega) | exact sh_wor (by omega) | exact sh_bar (by omega) | exact sh_term (by omega) | exact sh_sheet (by omega) | exact sh_items (by omega) | exact sh_sums (by omega)) (vp_in_nI (by omega) (by decide)) (by decide) (el_term (by omega)) ?_
      refine wp_getI (pc := 6) dX2_isBar_6 fl_2_32 (by first | rfl | assumption | exact sh_house (by omega) | exact sh_wish (by omega) | exact sh_wor (by omega) | exact sh_bar (by omega) | exact sh_term (by omega) | exact sh_sheet (by omega) | exact sh_items (by omega) | exact sh_sums (by omega)) rfl ?_
      refine wp_iconst (pc := 9) (v := 3) dX2_isBar_9 (by decide) ?_
      refine wp_icmp_ne (pc := 10) (tgt := 17) dX2_isBar_10 rfl (fun q => absurd (f0.trans c1) q) (fun _ => ?_)
      refine wp_iconst (pc := 13) (v := 1) dX2_isBar_13 (by decide) ?_
      refine wp_goto (pc := 14) (tgt := 18) dX2_isBar_14 rfl ?_
      refine wp_iretK (pc := 18) dX2_isBar_18 rfl (by first | rfl | decide | assumption) ?_
      refine wp_if_eq (pc := 25) (tgt := 45) dX2_breakOf_25 rfl (fun q => absurd q (by decide)) (fun _ => ?_)
      refine wp_aload_n (pc := 28) dX2_breakOf_28 (by first | rfl | assumption | (repeat first | assumption | rfl | refine aG_n ?_ rfl rfl)) ?_
      refine wp_getR (pc := 29) dX2_breakOf_29 fl_2_21 (by first | rfl | assumption | exact sh_house (by omega) | exact sh_wish (by omega) | exact sh_wor (by omega) | exact sh_bar (by omega) | exact sh_term (by omega) | exact sh_sheet (by omega) | exact sh_items (by omega) | exact sh_sums (by omega)) rfl ?_
      refine wp_aload_n (pc := 32) dX2_breakOf_32 (by first | rfl | assumption | (repeat first | assumption | rfl | refine aG_n ?_ rfl rfl)) ?_
      refine wp_getR (pc := 33) dX2_breakOf_33 fl_2_13 (by first | rfl | assumption | exact sh_house (by omega) | exact sh_wish (by omega) | exact sh_wor (by omega) | exact sh_bar (by omega) | exact sh_term (by omega) | exact sh_sheet (by omega) | exact sh_items (by omega) | exact sh_sums (by omega)) rfl ?_
      refine wp_iload_n (pc := 36) dX2_breakOf_36 (by first | rfl | assumption | (repeat first | assumption | rfl | refine aG_n ?_ rfl rfl)) ?_
      refine wp_aald (pc := 37) dX2_breakOf_37 (by first | rfl | assumption | exact sh_house (by omega) | exact sh_wish (by omega) | exact sh_wor (by omega) | exact sh_bar (by omega) | exact sh_term (by omega) | exact sh_sheet (by omega) | exact sh_items (by omega) | exact sh_sums (by omega)) (vp_in_nI (by omega) (by decide)) (by decide) (el_term (by omega)) ?_
      refine wp_getI (pc := 38) dX2_breakOf_38 fl_2_44 (by first | rfl | assumption | exact sh_house (by omega) | exact sh_wish (by omega) | exact sh_wor (by omega) | exact sh_bar (by omega) | exact sh_term (by omega) | exact sh_sheet (by omega) | exact sh_items (by omega) | exact sh_sums (by omega)) rfl ?_
      refine wp_iald (pc := 41) dX2_breakOf_41 (by first | rfl | assumption | exact sh_house (by omega) | exact sh_wish (by omega) | exact sh_wor (by omega) | exact sh_bar (by omega) | exact sh_term (by omega) | exact sh_sheet (by omega) | exact sh_items (by omega) | exact sh_sums (by omega)) (by rw [f4, ee]; exact vp_in_nI (by omega) (by decide)) ?_
      refine wp_goto (pc := 42) (tgt := 53) dX2_breakOf_42 rfl ?_
      refine wp_ireturn (pc := 53) dX2_breakOf_53 rfl (by first | rfl | decide | assumption) ?_
      refine qEq ?_ k
      rw [f4, ee, ce, e34]
    · have n4 : ¬ stV μ.1 h (μ.1 33 t) t = 4 := by rw [s]; decide
      have n5 : ¬ stV μ.1 h (μ.1 33 t) t = 5 := by rw [s]; decide
      rw [if_neg (fun z => z.elim n4 n5)] at k
      refine wp_aload_n (pc := 0) dX2_breakOf_0 (by first | rfl | assumption | (repeat first | assumption | rfl | refine aG_n ?_ rfl rfl)) ?_
      refine wp_iload_n (pc := 1) dX2_breakOf_1 (by first | rfl | assumption | (repeat first | assumption | rfl | refine aG_n ?_ rfl rfl)) ?_
      refine wp_iload_n (pc := 2) dX2_breakOf_2 (by first | rfl | assumption | (repeat first | assumption | rfl | refine aG_n ?_ rfl rfl)) ?_
      refine wp_cV (pc := 3) dX2_breakOf_3 lk_2_72 rfl (by decide) rfl (by first | rfl | assumption | exact sh_house (by omega) | exact sh_wish (by omega) | exact sh_wor (by omega) | exact sh_bar (by omega) | exact sh_term (by omega) | exact sh_sheet (by omega) | exact sh_items (by omega) | exact sh_sums (by omega)) rfl rfl (c_X2_stateOf hL ht (aK_i ?_))
      refine wp_istore_n (pc := 6) dX2_breakOf_6 (by decide) ?_
      refine wp_iload_n (pc := 7) dX2_breakOf_7 (by first | rfl | assumption | (repeat first | assumption | rfl | refine aG_n ?_ rfl rfl)) ?_
      refine wp_iconst (pc := 8) (v := 4) dX2_breakOf_8 (by decide) ?_
      refine wp_icmp_eq (pc := 9) (tgt := 20) dX2_breakOf_9 rfl (fun q => absurd q n4) (fun _ => ?_)
      refine wp_iload_n (pc := 12) dX2_breakOf_12 (by first | rfl | assumption | (repeat first | assumption | rfl | refine aG_n ?_ rfl rfl)) ?_
      refine wp_iconst (pc := 13) (v := 5) dX2_breakOf_13 (by decide) ?_
      refine wp_icmp_eq (pc := 14) (tgt := 20) dX2_breakOf_14 rfl (fun q => absurd q n5) (fun _ => ?_)
      refine wp_bipush (pc := 17) (v := -4) dX2_breakOf_17 (by decide) ?_
      refine wp_ireturn (pc := 19) dX2_breakOf_19 rfl (by first | rfl | decide | assumption) ?_
      exact k
  · rw [if_neg c1] at k
    by_cases s4 : stV μ.1 h (μ.1 33 t) t = 4
    · rw [if_pos (Or.inl s4)] at k
      refine wp_aload_n (pc := 0) dX2_breakOf_0 (by first | rfl | assumption | (repeat first | assumption | rfl | refine aG_n ?_ rfl rfl)) ?_
      refine wp_iload_n (pc := 1) dX2_breakOf_1 (by first | rfl | assumption | (repeat first | assumption | rfl | refine aG_n ?_ rfl rfl)) ?_
      refine wp_iload_n (pc := 2) dX2_breakOf_2 (by first | rfl | assumption | (repeat first | assumption | rfl | refine aG_n ?_ rfl rfl)) ?_
      refine wp_cV (pc := 3) dX2_breakOf_3 lk_2_72 rfl (by decide) rfl (by first | rfl | assumption | exact sh_house (by omega) | exact sh_wish (by omega) | exact sh_wor (by omega) | exact sh_bar (by omega) | exact sh_term (by omega) | exact sh_sheet (by omega) | exact sh_items (by omega) | exact sh_sums (by omega)) rfl rfl (c_X2_stateOf hL ht (aK_i ?_))
      refine wp_istore_n (pc := 6) dX2_breakOf_6 (by decide) ?_
      refine wp_iload_n (pc := 7) dX2_breakOf_7 (by first | rfl | assumption | (repeat first | assumption | rfl | refine aG_n ?_ rfl rfl)) ?_
      refine wp_iconst (pc := 8) (v := 4) dX2_breakOf_8 (by decide) ?_
      refine wp_icmp_eq (pc := 9) (tgt := 20) dX2_breakOf_9 rfl (fun _ => ?_) (fun q => absurd s4 q)
      refine wp_aload_n (pc := 20) dX2_breakOf_20 (by first | rfl | assumption | (repeat first | assumption | rfl | refine aG_n ?_ rfl rfl)) ?_
      refine wp_iload_n (pc := 21) dX2_breakOf_21 (by first | rfl | assumption | (repeat first | assumption | rfl | refine aG_n ?_ rfl rfl)) ?_
      refine wp_cV (pc := 22) dX2_breakOf_22 lk_2_75 rfl (by decide) rfl (by first | rfl | assumption | exact sh_house (by omega) | exact sh_wish (by omega) | exact sh_wor (by omega) | exact sh_bar (by omega) | exact sh_term (by omega) | exact sh_sheet (by omega) | exact sh_items (by omega) | exact sh_sums (by omega)) rfl rfl ?_
      refine wp_aload_n (pc := 0) dX2_isBar_0 (by first | rfl | assumption | (repeat first | assumption | rfl | refine aG_n ?_ rfl rfl)) ?_
      refine wp_getR (pc := 1) dX2_isBar_1 fl_2_13 (by first | rfl | assumption | exact sh_house (by omega) | exact sh_wish (by omega) | exact sh_wor (by omega) | exact sh_bar (by omega) | exact sh_term (by omega) | exact sh_sheet (by omega) | exact sh_items (by omega) | exact sh_sums (by omega)) rfl ?_
      refine wp_iload_n (pc := 4) dX2_isBar_4 (by first | rfl | assumption | (repeat first | assumption | rfl | refine aG_n ?_ rfl rfl)) ?_
      refine wp_aald (pc := 5) dX2_isBar_5 (by first | rfl | assumption | exact sh_house (by omega) | exact sh_wish (by omega) | exact sh_wor (by omega) | exact sh_bar (by omega) | exact sh_term (by omega) | exact sh_sheet (by omega) | exact sh_items (by omega) | exact sh_sums (by omega)) (vp_in_nI (by omega) (by decide)) (by decide) (el_term (by omega)) ?_
      refine wp_getI (pc := 6) dX2_isBar_6 fl_2_32 (by first | rfl | assumption | exact sh_house (by omega) | exact sh_wish (by omega) | exact sh_wor (by omega) | exact sh_bar (by omega) | exact sh_term (by omega) | exact sh_sheet (by omega) | exact sh_items (by omega) | exact sh_sums (by omega)) rfl ?_
      refine wp_iconst (pc := 9) (v := 3) dX2_isBar_9 (by decide) ?_
      refine wp_icmp_ne (pc := 10) (tgt := 17) dX2_isBar_10 rfl (fun _ => ?_) (fun q => absurd q (by rw [f0]; exact c1))
      refine wp_iconst (pc := 17) (v := 0) dX2_isBar_17 (by decide) ?_
      refine wp_iretK (pc := 18) dX2_isBar_18 rfl (by first | rfl | decide | assumption) ?_
      refine wp_if_eq (pc := 25) (tgt := 45) dX2_breakOf_25 rfl (fun _ => ?_) (fun q => absurd q (by decide))
      refine wp_aload_n (pc := 45) dX2_breakOf_45 (by first | rfl | assumption | (repeat first | assumption | rfl | refine aG_n ?_ rfl rfl)) ?_
      refine wp_getR (pc := 46) dX2_breakOf_46 fl_2_17 (by first | rfl | assumption | exact sh_house (by omega) | exact sh_wish (by omega) | exact sh_wor (by omega) | exact sh_bar (by omega) | exact sh_term (by omega) | exact sh_sheet (by omega) | exact sh_items (by omega) | exact sh_sums (by omega)) rfl ?_
      refine wp_iload_n (pc := 49) dX2_breakOf_49 (by first | rfl | assumption | (repeat first | assumption | rfl | refine aG_n ?_ rfl rfl)) ?_
      refine wp_iald (pc := 50) dX2_breakOf_50 (by first | rfl | assumption | exact sh_house (by omega) | exact sh_wish (by omega) | exact sh_wor (by omega) | exact sh_bar (by omega) | exact sh_term (by omega) | exact sh_sheet (by omega) | exact sh_items (by omega) | exact sh_sums (by omega)) (vp_in_nI (by omega) (by decide)) ?_
      refine wp_iconst (pc := 51) (v := 1) dX2_breakOf_51 (by decide) ?_
      refine wp_iadd (pc := 52) dX2_breakOf_52 ?_
      refine wp_ireturn (pc := 53) dX2_breakOf_53 rfl (by first | rfl | decide | assumption) ?_
      refine qEq ?_ k
      rw [ct]
    · by_cases s5 : stV μ.1 h (μ.1 33 t) t = 5
      · rw [if_pos (Or.inr s5)] at k
        refine wp_aload_n (pc := 0) dX2_breakOf_0 (by first | rfl | assumption | (repeat first | assumption | rfl | refine aG_n ?_ rfl rfl)) ?_
        refine wp_iload_n (pc := 1) dX2_breakOf_1 (by first | rfl | assumption | (repeat first | assumption | rfl | refine aG_n ?_ rfl rfl)) ?_
        refine wp_iload_n (pc := 2) dX2_breakOf_2 (by first | rfl | assumption | (repeat first | assumption | rfl | refine aG_n ?_ rfl rfl)) ?_
        refine wp_cV (pc := 3) dX2_breakOf_3 lk_2_72 rfl (by decide) rfl (by first | rfl | assumption | exact sh_house (by omega) | exact sh_wish (by omega) | exact sh_wor (by omega) | exact sh_bar (by omega) | exact sh_term (by omega) | exact sh_sheet (by omega) | exact sh_items (by omega) | exact sh_sums (by omega)) rfl rfl (c_X2_stateOf hL ht (aK_i ?_))
        refine wp_istore_n (pc := 6) dX2_breakOf_6 (by decide) ?_
        refine wp_iload_n (pc := 7) dX2_breakOf_7 (by first | rfl | assumption | (repeat first | assumption | rfl | refine aG_n ?_ rfl rfl)) ?_
        refine wp_iconst (pc := 8) (v := 4) dX2_breakOf_8 (by decide) ?_
        refine wp_icmp_eq (pc := 9) (tgt := 20) dX2_breakOf_9 rfl (fun q => absurd q s4) (fun _ => ?_)
        refine wp_iload_n (pc := 12) dX2_breakOf_12 (by first | rfl | assumption | (repeat first | assumption | rfl | refine aG_n ?_ rfl rfl)) ?_
        refine wp_iconst (pc := 13) (v := 5) dX2_breakOf_13 (by decide) ?_
        refine wp_icmp_eq (pc := 14) (tgt := 20) dX2_breakOf_14 rfl (fun _ => ?_) (fun q => absurd s5 q)
        refine wp_aload_n (pc := 20) dX2_breakOf_20 (by first | rfl | assumption | (repeat first | assumption | rfl | refine aG_n ?_ rfl rfl)) ?_
        refine wp_iload_n (pc := 21) dX2_breakOf_21 (by first | rfl | assumption | (repeat first | assumption | rfl | refine aG_n ?_ rfl rfl)) ?_
        refine wp_cV (pc := 22) dX2_breakOf_22 lk_2_75 rfl (by decide) rfl (by first | rfl | assumption | exact sh_house (by omega) | exact sh_wish (by omega) | exact sh_wor (by omega) | exact sh_bar (by omega) | exact sh_term (by omega) | exact sh_sheet (by omega) | exact sh_items (by omega) | exact sh_sums (by omega)) rfl rfl ?_
        refine wp_aload_n (pc := 0) dX2_isBar_0 (by first | rfl | assumption | (repeat first | assumption | rfl | refine aG_n ?_ rfl rfl)) ?_
        refine wp_getR (pc := 1) dX2_isBar_1 fl_2_13 (by first | rfl | assumption | exact sh_house (by omega) | exact sh_wish (by omega) | exact sh_wor (by omega) | exact sh_bar (by omega) | exact sh_term (by omega) | exact sh_sheet (by omega) | exact sh_items (by omega) | exact sh_sums (by omega)) rfl ?_
        refine wp_iload_n (pc := 4) dX2_isBar_4 (by first | rfl | assumption | (repeat first | assumption | rfl | refine aG_n ?_ rfl rfl)) ?_
        refine wp_aald (pc := 5) dX2_isBar_5 (by first | rfl | assumption | exact sh_house (by omega) | exact sh_wish (by omega) | exact sh_wor (by omega) | exact sh_bar (by omega) | exact sh_term (by omega) | exact sh_sheet (by omega) | exact sh_items (by omega) | exact sh_sums (by omega)) (vp_in_nI (by omega) (by decide)) (by decide) (el_term (by omega)) ?_
        refine wp_getI (pc := 6) dX2_isBar_6 fl_2_32 (by first | rfl | assumption | exact sh_house (by omega) | exact sh_wish (by omega) | exact sh_wor (by omega) | exact sh_bar (by omega) | exact sh_term (by omega) | exact sh_sheet (by omega) | exact sh_items (by omega) | exact sh_sums (by omega)) rfl ?_
        refine wp_iconst (pc := 9) (v := 3) dX2_isBar_9 (by decide) ?_
        refine wp_icmp_ne (pc := 10) (tgt := 17) dX2_isBar_10 rfl (fun _ => ?_) (fun q => absurd q (by rw [f0]; exact c1))
        refine wp_iconst (pc := 17) (v := 0) dX2_isBar_17 (by decide) ?_
        refine wp_iretK (pc := 18) dX2_isBar_18 rfl (by first | rfl | decide | assumption) ?_
        refine wp_if_eq (pc := 25) (tgt := 45) dX2_breakOf_25 rfl (fun _ => ?_) (fun q => absurd q (by decide))
        refine wp_aload_n (pc := 45) dX2_breakOf_45 (by first | rfl | assumption | (repeat first | assumption | rfl | refine aG_n ?_ rfl rfl)) ?_
        refine wp_getR (pc := 46) dX2_breakOf_46 fl_2_17 (by first | rfl | assumption | exact sh_house (by omega) | exact sh_wish (by omega) | exact sh_wor (by omega) | exact sh_bar (by omega) | exact sh_term (by omega) | exact sh_sheet (by omega) | exact sh_items (by omega) | exact sh_sums (by omega)) rfl ?_
        refine wp_iload_n (pc := 49) dX2_breakOf_49 (by first | rfl | assumption | (repeat first | assumption | rfl | refine aG_n ?_ rfl rfl)) ?_
        refine wp_iald (pc := 50) dX2_breakOf_50 (by first | rfl | assumption | exact sh_house (by omega) | exact sh_wish (by omega) | exact sh_wor (by omega) | exact sh_bar (by omega) | exact sh_term (by omega) | exact sh_sheet (by omega) | exact sh_items (by omega) | exact sh_sums (by omega)) (vp_in_nI (by omega) (by decide)) ?_
        refine wp_iconst (pc := 51) (v := 1) dX2_breakOf_51 (by decide) ?_
        refine wp_iadd (pc := 52) dX2_breakOf_52 ?_
        refine wp_ireturn (pc := 53) dX2_breakOf_53 rfl (by first | rfl | decide | assumption) ?_
        refine qEq ?_ k
        rw [ct]
      · rw [if_neg (fun z => z.elim s4 s5)] at k
        refine wp_aload_n (pc := 0) dX2_breakOf_0 (by first | rfl | assumption | (repeat first | assumption | rfl | refine aG_n ?_ rfl rfl)) ?_
        refine wp_iload_n (pc := 1) dX2_breakOf_1 (by first | rfl | assumption | (repeat first | assumption | rfl | refine aG_n ?_ rfl rfl)) ?_
        refine wp_iload_n (pc := 2) dX2_breakOf_2 (by first | rfl | assumption | (repeat first | assumption | rfl | refine aG_n ?_ rfl rfl)) ?_
        refine wp_cV (pc := 3) dX2_breakOf_3 lk_2_72 rfl (by decide) rfl (by first | rfl | assumption | exact sh_house (by omega) | exact sh_wish (by omega) | exact sh_wor (by omega) | exact sh_bar (by omega) | exact sh_term (by omega) | exact sh_sheet (by omega) | exact sh_items (by omega) | exact sh_sums (by omega)) rfl rfl (c_X2_stateOf hL ht (aK_i ?_))
        refine wp_istore_n (pc := 6) dX2_breakOf_6 (by decide) ?_
        refine wp_iload_n (pc := 7) dX2_breakOf_7 (by first | rfl | assumption | (repeat first | assumption | rfl | refine aG_n ?_ rfl rfl)) ?_
        refine wp_iconst (pc := 8) (v := 4) dX2_breakOf_8 (by decide) ?_
        refine wp_icmp_eq (pc := 9) (tgt := 20) dX2_breakOf_9 rfl (fun q => absurd q s4) (fun _ => ?_)
        refine wp_iload_n (pc := 12) dX2_breakOf_12 (by first | rfl | assumption | (repeat first | assumption | rfl | refine aG_n ?_ rfl rfl)) ?_
        refine wp_iconst (pc := 13) (v := 5) dX2_breakOf_13 (by decide) ?_
        refine wp_icmp_eq (pc := 14) (tgt := 20) dX2_breakOf_14 rfl (fun q => absurd q s5) (fun _ => ?_)
        refine wp_bipush (pc := 17) (v := -4) dX2_breakOf_17 (by decide) ?_
        refine wp_ireturn (pc := 19) dX2_breakOf_19 rfl (by first | rfl | decide | assumption) ?_
        exact k
theorem c_X2_endOf (hL : LT μ.1 n) (ht : t < n) (k : Q (some (.int (eO μ.1 h (μ.1 33) t))) μ) : WP X mX2_endOf 0 (lv_args 0 [.ref 31, .ref (36 + t), .int h]) [] μ Q := by
  have ht16 : t < 16 := Nat.lt_of_lt_of_le ht hL.1
  obtain ⟨⟨f0, f1, f3, f4, f5⟩, g1, g2, g3, g4⟩ := hL.2.2.2.1 t ht
  unfold eO at k
  by_cases c0 : μ.1 111 t = 0
  · rw [if_pos c0] at k
    refine wp_aload_n (pc := 0) dX2_endOf_0 (by first | rfl | assumption | (repeat first | assumption | rfl | refine aG_n ?_ rfl rfl)) ?_
    refine wp_getI (pc := 1) dX2_endOf_1 fl_2_32 (by first | rfl | assumption | exact sh_house (by omega) | exact sh_wish (by omega) | exact sh_wor (by omega) | exact sh_bar (by omega) | exact sh_term (by omega) | exact sh_sheet (by omega) | exact sh_items (by omega) | exact sh_sums (by omega)) rfl ?_
    refine wp_if_ne (pc := 4) (tgt := 12) dX2_endOf_4 rfl (fun q => absurd (f0.trans c0) q) (fun _ => ?_)
    refine wp_aload_n (pc := 7) dX2_endOf_7 (by first | rfl | assumption | (repeat first | assumption | rfl | refine aG_n ?_ rfl rfl)) ?_
    refine wp_getI (pc := 8) dX2_endOf_8 fl_2_44 (by first | rfl | assumption | exact sh_house (by omega) | exact sh_wish (by omega) | exact sh_wor (by omega) | exact sh_bar (by omega) | exact sh_term (by omega) | exact sh_sheet (by omega) | exact sh_items (by omega) | exact sh_sums (by omega)) rfl ?_
    refine wp_ireturn (pc := 11) dX2_endOf_11 rfl (by first | rfl | decide | assumption) ?_
    rw [f4]; exact k
  · rw [if_neg c0] at k
    have d0 : ¬ μ.1 (36 + t) 0 = 0 := by rw [f0]; exact c0
    by_cases c1 : μ.1 111 t = 1
    · rw [if_pos c1] at k
      obtain ⟨e, he, ee⟩ := g1 (Or.inl c1)
      rw [abt_e (by omega) ee] at k
      have ce : (nI e).toNatClampNeg = e := nI_clamp (by omega)
      by_cases c2 : knP μ.1 e h
      · rw [if_pos c2] at k
        have e34 : μ.1 34 e = μ.1 118 e := (hL.2.2.2.2 e he).elim (fun z => absurd z.2 c2.1) (fun z => z.1)
        refine wp_aload_n (pc := 0) dX2_endOf_0 (by first | rfl | assumption | (repeat first | assumption | rfl | refine aG_n ?_ rfl rfl)) ?_
        refine wp_getI (pc := 1) dX2_endOf_1 fl_2_32 (by first | rfl | assumption | exact sh_house (by omega) | exact sh_wish (by omega) | exact sh_wor (by omega) | exact sh_bar (by omega) | exact sh_term (by omega) | exact sh_sheet (by omega) | exact sh_items (by omega) | exact sh_sums (by omega)) rfl ?_
        refine wp_if_ne (pc := 4) (tgt := 12) dX2_endOf_4 rfl (fun _ => ?_) (fun q => absurd q d0)
        refine wp_aload_n (pc := 12) dX2_endOf_12 (by first | rfl | assumption | (repeat first | assumption | rfl | refine aG_n ?_ rfl rfl)) ?_
        refine wp_getI (pc := 13) dX2_endOf_13 fl_2_32 (by first | rfl | assumption | exact sh_house (by omega) | exact sh_wish (by omega) | exact sh_wor (by omega) | exact sh_bar (by omega) | exact sh_term (by omega) | exact sh_sheet (by omega) | exact sh_items (by omega) | exact sh_sums (by omega)) rfl ?_
        refine wp_iconst (pc := 16) (v := 1) dX2_endOf_16 (by decide) ?_
        refine wp_icmp_ne (pc := 17) (tgt := 52) dX2_endOf_17 rfl (fun q => absurd (f0.trans c1) q) (fun _ => ?_)
        refine wp_aload_n (pc := 20) dX2_endOf_20 (by first | rfl | assumption | (repeat first | assumption | rfl | refine aG_n ?_ rfl rfl)) ?_
        refine wp_aload_n (pc := 21) dX2_endOf_21 (by first | rfl | assumption | (repeat first | assumption | rfl | refine aG_n ?_ rfl rfl)) ?_
        refine wp_getI (pc := 22) dX2_endOf_22 fl_2_44 (by first | rfl | assumption | exact sh_house (by omega) | exact sh_wish (by omega) | exact sh_wor (by omega) | exact sh_bar (by omega) | exact sh_term (by omega) | exact sh_sheet (by omega) | exact sh_items (by omega) | exact sh_sums (by omega)) rfl ?_
        refine wp_iload_n (pc := 25) dX2_endOf_25 (by first | rfl | assumption | (repeat first | assumption | rfl | refine aG_n ?_ rfl rfl)) ?_
        refine wp_cV (pc := 26) dX2_endOf_26 lk_2_58 rfl (by decide) rfl (by first | rfl | assumption | exact sh_house (by omega) | exact sh_wish (by omega) | exact sh_wor (by omega) | exact sh_bar (by omega) | exact sh_term (by omega) | exact sh_sheet (by omega) | exact sh_items (by omega) | exact sh_sums (by omega)) rfl rfl ?_
        rw [f4, ee]
        refine c_X2_isKnown hL he (fun _ => aK_i ?_) (fun q => absurd c2 q)
        refine wp_if_eq (pc := 29) (tgt := 49) dX2_endOf_29 rfl (fun q => absurd q (by decide)) (fun _ => ?_)
        refine wp_aload_n (pc := 32) dX2_endOf_32 (by first | rfl | assumption | (repeat first | assumption | rfl | refine aG_n ?_ rfl rfl)) ?_
        refine wp_getR (pc := 33) dX2_endOf_33 fl_2_21 (by first | rfl | assumption | exact sh_house (by omega) | exact sh_wish (by omega) | exact sh_wor (by omega) | exact sh_bar (by omega) | exact sh_term (by omega) | exact sh_sheet (by omega) | exact sh_items (by omega) | exact sh_sums (by omega)) rfl ?_
        refine wp_aload_n (pc := 36) dX2_endOf_36 (by first | rfl | assumption | (repeat first | assumption | rfl | refine aG_n ?_ rfl rfl)) ?_
        refine wp_getI (pc := 37) dX2_endOf_37 fl_2_44 (by first | rfl | assumption | exact sh_house (by omega) | exact sh_wish (by omega) | exact sh_wor (by omega) | exact sh_bar (by omega) | exact sh_term (by omega) | exact sh_sheet (by omega) | exact sh_items (by omega) | exact sh_sums (by omega)) rfl ?_
        refine wp_iald (pc := 40) dX2_endOf_40 (by first | rfl | assumption | exact sh_house (by omega) | exact sh_wish (by omega) | exact sh_wor (by omega) | exact sh_bar (by omega) | exact sh_term (by omega) | exact sh_sheet (by omega) | exact sh_items (by omega) | exact sh_sums (by omega)) (by rw [f4, ee]; exact vp_in_nI (by omega) (by decide)) ?_
        refine wp_aload_n (pc := 41) dX2_endOf_41 (by first | rfl | assumption | (repeat first | assumption | rfl | refine aG_n ?_ rfl rfl)) ?_
        refine wp_getI (pc := 42) dX2_endOf_42 fl_2_47 (by first | rfl | assumption | exact sh_house (by omega) | exact sh_wish (by omega) | exact sh_wor (by omega) | exact sh_bar (by omega) | exact sh_term (by omega) | exact sh_sheet (by omega) | exact sh_items (by omega) | exact sh_sums (by omega)) rfl ?_
        refine wp_iadd (pc := 45) dX2_endOf_45 ?_
        refine wp_goto (pc := 46) (tgt := 51) dX2_endOf_46 rfl ?_
        refine wp_ireturn (pc := 51) dX2_endOf_51 rfl (by first | rfl | decide | assumption) ?_
        refine qEq ?_ k
        rw [f4, ee, ce, e34, f5]
      · rw [if_neg c2] at k
        refine wp_aload_n (pc := 0) dX2_endOf_0 (by first | rfl | assumption | (repeat first | assumption | rfl | refine aG_n ?_ rfl rfl)) ?_
        refine wp_getI (pc := 1) dX2_endOf_1 fl_2_32 (by first | rfl | assumption | exact sh_house (by omega) | exact sh_wish (by omega) | exact sh_wor (by omega) | exact sh_bar (by omega) | exact sh_term (by omega) | exact sh_sheet (by omega) | exact sh_items (by omega) | exact sh_sums (by omega)) rfl ?_
        refine wp_if_ne (pc := 4) (tgt := 12) dX2_endOf_4 rfl (fun _ => ?_) (fun q => absurd q d0)
        refine wp_aload_n (pc := 12) dX2_endOf_12 (by first | rfl | assumption | (repeat first | assumption | rfl | refine aG_n ?_ rfl rfl)) ?_
        refine wp_getI (pc := 13) dX2_endOf_13 fl_2_32 (by first | rfl | assumption | exact sh_house (by omega) | exact sh_wish (by omega) | exact sh_wor (by omega) | exact sh_bar (by omega) | exact sh_term (by omega) | exact sh_sheet (by omega) | exact sh_items (by omega) | exact sh_sums (by omega)) rfl ?_
        refine wp_iconst (pc := 16) (v := 1) dX2_endOf_16 (by decide) ?_
        refine wp_icmp_ne (pc := 17) (tgt := 52) dX2_endOf_17 rfl (fun q => absurd (f0.trans c1) q) (fun _ => ?_)
        refine wp_aload_n (pc := 20) dX2_endOf_20 (by first | rfl | assumption | (repeat first | assumption | rfl | refine aG_n ?_ rfl rfl)) ?_
        refine wp_aload_n (pc := 21) dX2_endOf_21 (by first | rfl | assumption | (repeat first | assumption | rfl | refine aG_n ?_ rfl rfl)) ?_
        refine wp_getI (pc := 22) dX2_endOf_22 fl_2_44 (by first | rfl | assumption | exact sh_house (by omega) | exact sh_wish (by omega) | exact sh_wor (by omega) | exact sh_bar (by omega) | exact sh_term (by omega) | exact sh_sheet (by omega) | exact sh_items (by omega) | exact sh_sums (by omega)) rfl ?_
        refine wp_iload_n (pc := 25) dX2_endOf_25 (by first | rfl | assumption | (repeat first | assumption | rfl | refine aG_n ?_ rfl rfl)) ?_
        refine wp_cV (pc := 26) dX2_endOf_26 lk_2_58 rfl (by decide) rfl (by first | rfl | assumption | exact sh_house (by omega) | exact sh_wish (by omega) | exact sh_wor (by omega) | exact sh_bar (by omega) | exact sh_term (by omega) | exact sh_sheet (by omega) | exact sh_items (by omega) | exact sh_sums (by omega)) rfl rfl ?_
        rw [f4, ee]
        refine c_X2_isKnown hL he (fun q => absurd q c2) (fun _ => aK_i ?_)
        refine wp_if_eq (pc := 29) (tgt := 49) dX2_endOf_29 rfl (fun _ => ?_) (fun q => absurd rfl q)
        refine wp_bipush (pc := 49) (v := -4) dX2_endOf_49 (by decide) ?_
        refine wp_ireturn (pc := 51) dX2_endOf_51 rfl (by first | rfl | decide | assumption) ?_
        exact k
    · rw [if_neg c1] at k
      have d1 : ¬ μ.1 (36 + t) 0 = 1 := by rw [f0]; exact c1
      by_cases c2 : μ.1 111 t = 2
      · rw [if_pos c2] at k
        obtain ⟨q, hq, eq⟩ := g2 c2
        rw [abt_e (by omega) eq] at k
        by_cases c3 : brV μ.1 h (μ.1 33 q) q = -4
        · rw [if_pos c3] at k
          refine wp_aload_n (pc := 0) dX2_endOf_0 (by first | rfl | assumption | (repeat first | assumption | rfl | refine aG_n ?_ rfl rfl)) ?_
          refine wp_getI (pc := 1) dX2_endOf_1 fl_2_32 (by first | rfl | assumption | exact sh_house (by omega) | exact sh_wish (by omega) | exact sh_wor (by omega) | exact sh_bar (by omega) | exact sh_term (by omega) | exact sh_sheet (by omega) | exact sh_items (by omega) | exact sh_sums (by omega)) rfl ?_
          refine wp_if_ne (pc := 4) (tgt := 12) dX2_endOf_4 rfl (fun _ => ?_) (fun q => absurd q d0)
          refine wp_aload_n (pc := 12) dX2_endOf_12 (by first | rfl | assumption | (repeat first | assumption | rfl | refine aG_n ?_ rfl rfl)) ?_
          refine wp_getI (pc := 13) dX2_endOf_13 fl_2_32 (by first | rfl | assumption | exact sh_house (by omega) | exact sh_wish (by omega) | exact sh_wor (by omega) | exact sh_bar (by omega) | exact sh_term (by omega) | exact sh_sheet (by omega) | exact sh_items (by omega) | exact sh_sums (by omega)) rfl ?_
          refine wp_iconst (pc := 16) (v := 1) dX2_endOf_16 (by decide) ?_
          refine wp_icmp_ne (pc := 17) (tgt := 52) dX2_endOf_17 rfl (fun _ => ?_) (fun q => absurd q d1)
          refine wp_aload_n (pc := 52) dX2_endOf_52 (by first | rfl | assumption | (repeat first | assumption | rfl | refine aG_n ?_ rfl rfl)) ?_
          refine wp_getI (pc := 53) dX2_endOf_53 fl_2_32 (by first | rfl | assumption | exact sh_house (by omega) | exact sh_wish (by omega) | exact sh_wor (by omega) | exact sh_bar (by omega) | exact sh_term (by omega) | exact sh_sheet (by omega) | exact sh_items (by omega) | exact sh_sums (by omega)) rfl ?_
          refine wp_iconst (pc := 56) (v := 2) dX2_endOf_56 (by decide) ?_
          refine wp_icmp_ne (pc := 57) (tgt := 88) dX2_endOf_57 rfl (fun q => absurd (f0.trans c2) q) (fun _ => ?_)
          refine wp_aload_n (pc := 60) dX2_endOf_60 (by first | rfl | assumption | (repeat first | assumption | rfl | refine aG_n ?_ rfl rfl)) ?_
          refine wp_aload_n (pc := 61) dX2_endOf_61 (by first | rfl | assumption | (repeat first | assumption | rfl | refine aG_n ?_ rfl rfl)) ?_
          refine wp_getI (pc := 62) dX2_endOf_62 fl_2_44 (by first | rfl | assumption | exact sh_house (by omega) | exact sh_wish (by omega) | exact sh_wor (by omega) | exact sh_bar (by omega) | exact sh_term (by omega) | exact sh_sheet (by omega) | exact sh_items (by omega) | exact sh_sums (by omega)) rfl ?_
          refine wp_iload_n (pc := 65) dX2_endOf_65 (by first | rfl | assumption | (repeat first | assumption | rfl | refine aG_n ?_ rfl rfl)) ?_
          refine wp_cV (pc := 66) dX2_endOf_66 lk_2_62 rfl (by decide) rfl (by first | rfl | assumption | exact sh_house (by omega) | exact sh_wish (by omega) | exact sh_wor (by omega) | exact sh_bar (by omega) | exact sh_term (by omega) | exact sh_sheet (by omega) | exact sh_items (by omega) | exact sh_sums (by omega)) rfl rfl ?_
          rw [f4, eq]
          refine c_X2_breakOf hL (by omega) (aK_i ?_)
          refine wp_istore_n (pc := 69) dX2_endOf_69 (by decide) ?_
          refine wp_iload_n (pc := 70) dX2_endOf_70 (by first | rfl | assumption | (repeat first | assumption | rfl | refine aG_n ?_ rfl rfl)) ?_
          refine wp_bipush (pc := 71) (v := -4) dX2_endOf_71 (by decide) ?_
          refine wp_icmp_ne (pc := 73) (tgt := 81) dX2_endOf_73 rfl (fun q => absurd c3 q) (fun _ => ?_)
          refine wp_bipush (pc := 76) (v := -4) dX2_endOf_76 (by decide) ?_
          refine wp_goto (pc := 78) (tgt := 87) dX2_endOf_78 rfl ?_
          refine wp_ireturn (pc := 87) dX2_endOf_87 rfl (by first | rfl | decide | assumption) ?_
          exact k
        · rw [if_neg c3] at k
          refine wp_aload_n (pc := 0) dX2_endOf_0 (by first | rfl | assumption | (repeat first | assumption | rfl | refine aG_n ?_ rfl rfl)) ?_
          refine wp_getI (pc := 1) dX2_endOf_1 fl_2_32 (by first | rfl | assumption | exact sh_house (by omega) | exact sh_wish (by omega) | exact sh_wor (by omega) | exact sh_bar (by omega) | exact sh_term (by omega) | exact sh_sheet (by omega) | exact sh_items (by omega) | exact sh_sums (by omega)) rfl ?_
          refine wp_if_ne (pc := 4) (tgt := 12) dX2_endOf_4 rfl (fun _ => ?_) (fun q => absurd q d0)
          refine wp_aload_n (pc := 12) dX2_endOf_12 (by first | rfl | assumption | (repeat first | assumption | rfl | refine aG_n ?_ rfl rfl)) ?_
          refine wp_getI (pc := 13) dX2_endOf_13 fl_2_32 (by first | rfl | assumption | exact sh_house (by omega) | exact sh_wish (by omega) | exact sh_wor (by omega) | exact sh_bar (by omega) | exact sh_term (by omega) | exact sh_sheet (by omega) | exact sh_items (by omega) | exact sh_sums (by omega)) rfl ?_
          refine wp_iconst (pc := 16) (v := 1) dX2_endOf_16 (by decide) ?_
          refine wp_icmp_ne (pc := 17) (tgt := 52) dX2_endOf_17 rfl (fun _ => ?_) (fun q => absurd q d1)
          refine wp_aload_n (pc := 52) dX2_endOf_52 (by first | rfl | assumption | (repeat first | assumption | rfl | refine aG_n ?_ rfl rfl)) ?_
          refine wp_getI (pc := 53) dX2_endOf_53 fl_2_32 (by first | rfl | assumption | exact sh_house (by omega) | exact sh_wish (by omega) | exact sh_wor (by omega) | exact sh_bar (by omega) | exact sh_term (by omega) | exact sh_sheet (by omega) | exact sh_items (by omega) | exact sh_sums (by omega)) rfl ?_
          refine wp_iconst (pc := 56) (v := 2) dX2_endOf_56 (by decide) ?_
          refine wp_icmp_ne (pc := 57) (tgt := 88) dX2_endOf_57 rfl (fun q => absurd (f0.trans c2) q) (fun _ => ?_)
          refine wp_aload_n (pc := 60) dX2_endOf_60 (by first | rfl | assumption | (repeat first | assumption | rfl | refine aG_n ?_ rfl rfl)) ?_
          refine wp_aload_n (pc := 61) dX2_endOf_61 (by first | rfl | assumption | (repeat first | assumption | rfl | refine aG_n ?_ rfl rfl)) ?_
          refine wp_getI (pc := 62) dX2_endOf_62 fl_2_44 (by first | rfl | assumption | exact sh_house (by omega) | exact sh_wish (by omega) | exact sh_wor (by omega) | exact sh_bar (by omega) | exact sh_term (by omega) | exact sh_sheet (by omega) | exact sh_items (by omega) | exact sh_sums (by omega)) rfl ?_
          refine wp_iload_n (pc := 65) dX2_endOf_65 (by first | rfl | assumption | (repeat first | assumption | rfl | refine aG_n ?_ rfl rfl)) ?_
          refine wp_cV (pc := 66) dX2_endOf_66 lk_2_62 rfl (by decide) rfl (by first | rfl | assumption | exact sh_house (by omega) | exact sh_wish (by omega) | exact sh_wor (by omega) | exact sh_bar (by omega) | exact sh_term (by omega) | exact sh_sheet (by omega) | exact sh_items (by omega) | exact sh_sums (by omega)) rfl rfl ?_
          rw [f4, eq]
          refine c_X2_breakOf hL (by omega) (aK_i ?_)
          refine wp_istore_n (pc := 69) dX2_endOf_69 (by decide) ?_
          refine wp_iload_n (pc := 70) dX2_endOf_70 (by first | rfl | assumption | (repeat first | assumption | rfl | refine aG_n ?_ rfl rfl)) ?_
          refine wp_bipush (pc := 71) (v := -4) dX2_endOf_71 (by decide) ?_
          refine wp_icmp_ne (pc := 73) (tgt := 81) dX2_endOf_73 rfl (fun _ => ?_) (fun q => absurd q c3)
          refine wp_iload_n (pc := 81) dX2_endOf_81 (by first | rfl | assumption | (repeat first | assumption | rfl | refine aG_n ?_ rfl rfl)) ?_
          refine wp_aload_n (pc := 82) dX2_endOf_82 (by first | rfl | assumption | (repeat first | assumption | rfl | refine aG_n ?_ rfl rfl)) ?_
          refine wp_getI (pc := 83) dX2_endOf_83 fl_2_47 (by first | rfl | assumption | exact sh_house (by omega) | exact sh_wish (by omega) | exact sh_wor (by omega) | exact sh_bar (by omega) | exact sh_term (by omega) | exact sh_sheet (by omega) | exact sh_items (by omega) | exact sh_sums (by omega)) rfl ?_
          refine wp_iadd (pc := 86) dX2_endOf_86 ?_
          refine wp_ireturn (pc := 87) dX2_endOf_87 rfl (by first | rfl | decide | assumption) ?_
          rw [f5]; exact k
      · rw [if_neg c2] at k
        refine wp_aload_n (pc := 0) dX2_endOf_0 (by first | rfl | assumption | (repeat first | assumption | rfl | refine aG_n ?_ rfl rfl)) ?_
        refine wp_getI (pc := 1) dX2_endOf_1 fl_2_32 (by first | rfl | assumption | exact sh_house (by omega) | exact sh_wish (by omega) | exact sh_wor (by omega) | exact sh_bar (by omega) | exact sh_term (by omega) | exact sh_sheet (by omega) | exact sh_items (by omega) | exact sh_sums (by omega)) rfl ?_
        refine wp_if_ne (pc := 4) (tgt := 12) dX2_endOf_4 rfl (fun _ => ?_) (fun q => absurd q d0)
        refine wp_aload_n (pc := 12) dX2_endOf_12 (by first | rfl | assumption | (repeat first | assumption | rfl | refine aG_n ?_ rfl rfl)) ?_
        refine wp_getI (pc := 13) dX2_endOf_13 fl_2_32 (by first | rfl | assumption | exact sh_house (by omega) | exact sh_wish (by omega) | exact sh_wor (by omega) | exact sh_bar (by omega) | exact sh_term (by omega) | exact sh_sheet (by omega) | exact sh_items (by omega) | exact sh_sums (by omega)) rfl ?_
        refine wp_iconst (pc := 16) (v := 1) dX2_endOf_16 (by decide) ?_
        refine wp_icmp_ne (pc := 17) (tgt := 52) dX2_endOf_17 rfl (fun _ => ?_) (fun q => absurd q d1)
        refine wp_aload_n (pc := 52) dX2_endOf_52 (by first | rfl | assumption | (repeat first | assumption | rfl | refine aG_n ?_ rfl rfl)) ?_
        refine wp_getI (pc := 53) dX2_endOf_53 fl_2_32 (by first | rfl | assumption | exact sh_house (by omega) | exact sh_wish (by omega) | exact sh_wor (by omega) | exact sh_bar (by omega) | exact sh_term (by omega) | exact sh_sheet (by omega) | exact sh_items (by omega) | exact sh_sums (by omega)) rfl ?_
        refine wp_iconst (pc := 56) (v := 2) dX2_endOf_56 (by decide) ?_
        refine wp_icmp_ne (pc := 57) (tgt := 88) dX2_endOf_57 rfl (fun _ => ?_) (fun q => absurd q (by rw [f0]; exact c2))
        refine wp_bipush (pc := 88) (v := -4) dX2_endOf_88 (by decide) ?_
        refine wp_ireturn (pc := 90) dX2_endOf_90 rfl (by first | rfl | decide | assumption) ?_
        exact k
end STATE

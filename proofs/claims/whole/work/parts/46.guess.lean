/-! learnt: the class's guesses -/
def cn (p : Nat) : Nat → Nat
  | 0 => 0
  | t + 1 => cn p t + (if p.testBit t = true then 1 else 0)
def gvN (p c t : Nat) : Nat := if p.testBit t = true then 10 * (c / 3 ^ cn p t % 3) else 0
def gv (p c : Nat) : Nat → Int32 := fun t => nI (gvN p c t)
theorem cn_y {p t : Nat} (h : p.testBit t = true) : cn p (t + 1) = cn p t + 1 := by show cn p t + _ = _; rw [if_pos h]
theorem cn_n {p t : Nat} (h : ¬ p.testBit t = true) : cn p (t + 1) = cn p t := by show cn p t + _ = _; rw [if_neg h]; rfl
theorem cn_le (p : Nat) : ∀ t, cn p t ≤ t
  | 0 => Nat.le_refl _
  | t + 1 => by
    have := cn_le p t
    by_cases h : p.testBit t = true
    · rw [cn_y h]; omega
    · rw [cn_n h]; omega
theorem cn_mono (p : Nat) : ∀ t s, t ≤ s → cn p t ≤ cn p s := by
  intro t s h
  induction s with
  | zero => rw [Nat.le_zero.mp h]; exact Nat.le_refl _
  | succ s ih =>
    by_cases e : t = s + 1
    · rw [e]; exact Nat.le_refl _
    · have := ih (by omega)
      by_cases hb : p.testBit s = true
      · rw [cn_y hb]; omega
      · rw [cn_n hb]; exact this
theorem pcn_cn : ∀ p, p < 64 → pcn p = cn p 6 := by decide +kernel
def LK (M : MM) (R : Nat → Nat → Nat) (a b w ta tb : Nat) : Prop := (a < 4 ∧ b < 4 ∧ a ≠ b) ∧ (M 73 1 = nI a ∧ M 86 16 = nI a ∧ M 73 2 = nI b ∧ M 86 17 = nI b) ∧ (w ≤ 20 ∧ M 73 3 = nI w ∧ M 86 19 = nI w) ∧ (ta < 64 ∧ tb < 64) ∧ (M 86 23 = nI ta ∧ M 86 24 = nI tb ∧ M 74 0 = nI ta ∧ M 74 1 = nI tb) ∧ (M 74 2 = M 86 25 ∧ M 74 3 = M 86 26) ∧ (R 74 4 = 56 + 4 * a ∧ R 74 5 = 56 + 4 * b) ∧ (∀ j, j < 20 → M 75 j = M 100 j ∧ M 76 j = M 101 j ∧ M 77 j = M 102 j) ∧ ∀ j, j < w → (isOf M j → (M 101 j = nI (wu M j) ∧ wu M j < 64) ∧ (M 100 j = 2 ↔ 0 < j ∧ isOf M (j - 1))) ∧ (¬ isOf M j → M 101 j = 0 ∧ M 102 j = 0)
theorem LK_of {M : MM} {R : Nat → Nat → Nat} (hI : Inv (M, R)) (hn : ¬ M 86 15 = 0) : ∃ a b w ta tb, LK M R a b w ta tb := by
  obtain ⟨t1, t2, t3, t4, w, hw, t6, t7, t8⟩ := hI.2.2.2.2.2.1
  obtain ⟨a, b, mo, d1, d2, d3, ⟨d41, d42, d43, d44⟩, d5, ⟨ta, tb, e1, e2, e3, e4, e5⟩, d7, d8, d9, d10⟩ := t8 hn
  refine ⟨a, b, w, ta, tb, d1, d2, ⟨hw, t3.trans t6, t6⟩, ⟨e1, e2⟩, ⟨e4, e5, d41.trans e4, d42.trans e5⟩, ⟨d43, d44⟩, d5, t4, fun j hj => ?_⟩
  obtain ⟨-, g2, g3, -⟩ := d10 j hj
  refine ⟨fun z => ?_, g3⟩
  obtain ⟨⟨u, hu, eu⟩, -, g4⟩ := g2 z
  have ew : wu M j = u := by unfold wu; rw [show M 101 j = nI u from eu, nI_clamp (by omega)]
  exact ⟨by rw [ew]; exact ⟨eu, hu⟩, g4⟩
section GUESS
variable {X : aX} {μ : Mm} {Q : Option Value → Mm → Prop}
theorem l_guess {p c : Nat} (hp : p < 64) (hc : c < 2 ^ 20) (k : ∀ μ', (∀ x, x ≠ 10 → μ'.1 x = μ.1 x) → μ'.2 = μ.2 → (∀ t, t < 6 → μ'.1 10 t = gv p c t) → ∀ L : aL, aL_get L 0 = some (.ref 0) → WP X mX11_makeGuess 52 L [] μ' Q) : ∀ (f t : Nat), t + f = 6 → ∀ μ', (∀ x, x ≠ 10 → μ'.1 x = μ.1 x) → μ'.2 = μ.2 → (∀ s, s < t → μ'.1 10 s = gv p c s) → ∀ L : aL, aL_get L 0 = some (.ref 0) → aL_get L 1 = some (.int (nI p)) → aL_get L 3 = some (.int (nI (c / 3 ^ cn p t))) → aL_get L 4 = some (.int (nI t)) → WP X mX11_makeGuess 5 L [] μ' Q
  | 0, t, ht, μ', ho, hr, hs, L, g0, g1, g3, g4 => by
    obtain rfl : t = 6 := by omega
    refine wp_iload (pc := 5) dX11_makeGuess_5 (by first | rfl | assumption | (repeat first | assumption | rfl | refine aG_n ?_ rfl rfl)) ?_
    refine wp_bipush (pc := 7) (v := 6) dX11_makeGuess_7 (by decide) ?_
    refine wp_icmp_ge (pc := 9) (tgt := 52) dX11_makeGuess_9 rfl (fun _ => ?_) (fun q => absurd (nI_le (a := 6) (b := 6) (by omega) (by omega)) q)
    exact k _ ho hr hs _ g0
  | f + 1, t, ht, μ', ho, hr, hs, L, g0, g1, g3, g4 => by
    have ct : (nI t).toNatClampNeg = t := nI_clamp (by omega)
    have hcl : c / 3 ^ cn p t ≤ c := Nat.div_le_self _ _
    have e1 : nI (c / 3 ^ cn p t) - nI (c / 3 ^ cn p t) / 3 * 3 = nI (c / 3 ^ cn p t % 3) := pk_rem (d := 3) (by omega) (by decide) (by decide)
    have e2 : nI (c / 3 ^ cn p t) / 3 = nI (c / 3 ^ cn p t / 3) := pk_div (d := 3) (by omega) (by decide) (by decide)
    by_cases hb : p.testBit t = true
    · have eg : (10 : Int32) * nI (c / 3 ^ cn p t % 3) = gv p c t := by
        unfold gv gvN; rw [if_pos hb]; exact pk_mul 10 _
      have en : c / 3 ^ cn p t / 3 = c / 3 ^ cn p (t + 1) := by rw [cn_y hb, Nat.pow_succ, Nat.div_div_eq_div_mul]
      refine wp_iload (pc := 5) dX11_makeGuess_5 (by first | rfl | assumption | (repeat first | assumption | rfl | refine aG_n ?_ rfl rfl)) ?_
      refine wp_bipush (pc := 7) (v := 6) dX11_makeGuess_7 (by decide) ?_
      refine wp_icmp_ge (pc := 9) (tgt := 52) dX11_makeGuess_9 rfl (fun q => absurd q (nI_ge (a := t) (b := 6) (by omega) (by omega))) (fun _ => ?_)
      refine wp_aload_n (pc := 12) dX11_makeGuess_12 (by first | rfl | assumption | (repeat first | assumption | rfl | refine aG_n ?_ rfl rfl)) ?_
      refine wp_getR (pc := 13) dX11_makeGuess_13 fl_11_32 (by first | rfl | assumption | exact sh_house (by omega) | exact sh_wish (by omega) | exact sh_wor (by omega) | exact sh_bar (by omega) | exact sh_term (by omega) | exact sh_sheet (by omega) | exact sh_items (by omega) | exact sh_sums (by omega)) rfl ?_
      refine wp_iload (pc := 16) dX11_makeGuess_16 (by first | rfl | assumption | (repeat first | assumption | rfl | refine aG_n ?_ rfl rfl)) ?_
      refine wp_iconst (pc := 18) (v := 0) dX11_makeGuess_18 (by decide) ?_
      refine wp_iast (pc := 19) dX11_makeGuess_19 (by first | rfl | assumption | exact sh_house (by omega) | exact sh_wish (by omega) | exact sh_wor (by omega) | exact sh_bar (by omega) | exact sh_term (by omega) | exact sh_sheet (by omega) | exact sh_items (by omega) | exact sh_sums (by omega)) (vp_in_nI (by omega) (by decide)) ?_
      refine wp_iload_n (pc := 20) dX11_makeGuess_20 (by first | rfl | assumption | (repeat first | assumption | rfl | refine aG_n ?_ rfl rfl)) ?_
      refine wp_iload (pc := 21) dX11_makeGuess_21 (by first | rfl | assumption | (repeat first | assumption | rfl | refine aG_n ?_ rfl rfl)) ?_
      refine wp_cS (pc := 23) dX11_makeGuess_23 lk_11_392 rfl rfl rfl (c_X11_hasBit rfl hp (by omega) (fun _ => aK_i ?_) (fun q => absurd hb q))
      refine wp_if_eq (pc := 26) (tgt := 46) dX11_makeGuess_26 rfl (fun q => absurd q (by decide)) (fun _ => ?_)
      refine wp_aload_n (pc := 29) dX11_makeGuess_29 (by first | rfl | assumption | (repeat first | assumption | rfl | refine aG_n ?_ rfl rfl)) ?_
      refine wp_getR (pc := 30) dX11_makeGuess_30 fl_11_32 (by first | rfl | assumption | exact sh_house (by omega) | exact sh_wish (by omega) | exact sh_wor (by omega) | exact sh_bar (by omega) | exact sh_term (by omega) | exact sh_sheet (by omega) | exact sh_items (by omega) | exact sh_sums (by omega)) rfl ?_
      refine wp_iload (pc := 33) dX11_makeGuess_33 (by first | rfl | assumption | (repeat first | assumption | rfl | refine aG_n ?_ rfl rfl)) ?_
      refine wp_bipush (pc := 35) (v := 10) dX11_makeGuess_35 (by decide) ?_
      refine wp_iload_n (pc := 37) dX11_makeGuess_37 (by first | rfl | assumption | (repeat first | assumption | rfl | refine aG_n ?_ rfl rfl)) ?_
      refine wp_iconst (pc := 38) (v := 3) dX11_makeGuess_38 (by decide) ?_
      refine wp_irem (pc := 39) dX11_makeGuess_39 (by decide) ?_
      refine wp_imul (pc := 40) dX11_makeGuess_40 ?_
      refine wp_iast (pc := 41) dX11_makeGuess_41 (by first | rfl | assumption | exact sh_house (by omega) | exact sh_wish (by omega) | exact sh_wor (by omega) | exact sh_bar (by omega) | exact sh_term (by omega) | exact sh_sheet (by omega) | exact sh_items (by omega) | exact sh_sums (by omega)) (vp_in_nI (by omega) (by decide)) ?_
      refine wp_iload_n (pc := 42) dX11_makeGuess_42 (by first | rfl | assumption | (repeat first | assumption | rfl | refine aG_n ?_ rfl rfl)) ?_
      refine wp_iconst (pc := 43) (v := 3) dX11_makeGuess_43 (by decide) ?_
      refine wp_idiv (pc := 44) dX11_makeGuess_44 (by decide) ?_
      refine wp_istore_n (pc := 45) dX11_makeGuess_45 (by decide) ?_
      refine wp_iinc (pc := 46) dX11_makeGuess_46 (by decide) (by first | rfl | assumption | (repeat first | assumption | rfl | refine aG_n ?_ rfl rfl)) rfl ?_
      refine wp_goto (pc := 49) (tgt := 5) dX11_makeGuess_49 rfl ?_
      skip
      rw [ct, e1, eg]
      refine l_guess hp hc k f (t + 1) (by omega) _ (fun x hx => ?_) (by exact hr) (fun s hs2 => ?_) _ (by first | rfl | assumption | (repeat first | assumption | rfl | refine aG_n ?_ rfl rfl)) (by first | rfl | assumption | (repeat first | assumption | rfl | refine aG_n ?_ rfl rfl)) (by rw [← en, ← e2]; first | rfl | assumption | (repeat first | assumption | rfl | refine aG_n ?_ rfl rfl)) (by rw [← nI_i1]; first | rfl | assumption | (repeat first | assumption | rfl | refine aG_n ?_ rfl rfl))
      · dsimp only; rw [up2_ne hx, up2_ne hx]; exact ho x hx
      · dsimp only
        by_cases e : s = t
        · subst e; exact up2_at
        · rw [up2_p (by omega), up2_p (by omega)]; exact hs s (by omega)
    · have eg : (0 : Int32) = gv p c t := by unfold gv gvN; rw [if_neg hb]; rfl
      refine wp_iload (pc := 5) dX11_makeGuess_5 (by first | rfl | assumption | (repeat first | assumption | rfl | refine aG_n ?_ rfl rfl)) ?_
      refine wp_bipush (pc := 7) (v := 6) dX11_makeGuess_7 (by decide) ?_
      refine wp_icmp_ge (pc := 9) (tgt := 52) dX11_makeGuess_9 rfl (fun q => absurd q (nI_ge (a := t) (b := 6) (by omega) (by omega))) (fun _ => ?_)
      refine wp_aload_n (pc := 12) dX11_makeGuess_12 (by first | rfl | assumption | (repeat first | assumption | rfl | refine aG_n ?_ rfl rfl)) ?_
      refine wp_getR (pc := 13) dX11_makeGuess_13 fl_11_32 (by first | rfl | assumption | exact sh_house (by omega) | exact sh_wish (by omega) | exact sh_wor (by omega) | exact sh_bar (by omega) | exact sh_term (by omega) | exact sh_sheet (by omega) | exact sh_items (by omega) | exact sh_sums (by omega)) rfl ?_
      refine wp_iload (pc := 16) dX11_makeGuess_16 (by first | rfl | assumption | (repeat first | assumption | rfl | refine aG_n ?_ rfl rfl)) ?_
      refine wp_iconst (pc := 18) (v := 0) dX11_makeGuess_18 (by decide) ?_
      refine wp_iast (pc := 19) dX11_makeGuess_19 (by first | rfl | assumption | exact sh_house (by omega) | exact sh_wish (by omega) | exact sh_wor (by omega) | exact sh_bar (by omega) | exact sh_term (by omega) | exact sh_sheet (by omega) | exact sh_items (by omega) | exact sh_sums (by omega)) (vp_in_nI (by omega) (by decide)) ?_
      refine wp_iload_n (pc := 20) dX11_makeGuess_20 (by first | rfl | assumption | (repeat first | assumption | rfl | refine aG_n ?_ rfl rfl)) ?_
      refine wp_iload (pc := 21) dX11_makeGuess_21 (by first | rfl | assumption | (repeat first | assumption | rfl | refine aG_n ?_ rfl rfl)) ?_
      refine wp_cS (pc := 23) dX11_makeGuess_23 lk_11_392 rfl rfl rfl (c_X11_hasBit rfl hp (by omega) (fun q => absurd q hb) (fun _ => aK_i ?_))
      refine wp_if_eq (pc := 26) (tgt := 46) dX11_makeGuess_26 rfl (fun _ => ?_) (fun q => absurd q (by decide))
      refine wp_iinc (pc := 46) dX11_makeGuess_46 (by decide) (by first | rfl | assumption | (repeat first | assumption | rfl | refine aG_n ?_ rfl rfl)) rfl ?_
      refine wp_goto (pc := 49) (tgt := 5) dX11_makeGuess_49 rfl ?_
      skip
      rw [ct]
      refine l_guess hp hc k f (t + 1) (by omega) _ (fun x hx => ?_) (by exact hr) (fun s hs2 => ?_) _ (by first | rfl | assumption | (repeat first | assumption | rfl | refine aG_n ?_ rfl rfl)) (by first | rfl | assumption | (repeat first | assumption | rfl | refine aG_n ?_ rfl rfl)) (by rw [cn_n hb]; first | rfl | assumption | (repeat first | assumption | rfl | refine aG_n ?_ rfl rfl)) (by rw [← nI_i1]; first | rfl | assumption | (repeat first | assumption | rfl | refine aG_n ?_ rfl rfl))
      · dsimp only; rw [up2_ne hx]; exact ho x hx
      · dsimp only
        by_cases e : s = t
        · subst e; rw [up2_at]; exact eg
        · rw [up2_p (by omega)]; exact hs s (by omega)
theorem c_X11_makeGuess {p c : Nat} (hp : p < 64) (hc : c < 2 ^ 20) (k : ∀ μ', (∀ x, ¬ (7 ≤ x ∧ x ≤ 10) → μ'.1 x = μ.1 x) → μ'.2 = μ.2 → (∀ s, s < 64 → μ'.1 8 s = sumF (gv p c) s 6 ∧ μ'.1 9 s = 0) → Q none μ') : WP X mX11_makeGuess 0 (lv_args 0 [.ref 0, .int (nI p), .int (nI c)]) [] μ Q := by
  refine wp_iload_n (pc := 0) dX11_makeGuess_0 (by first | rfl | assumption | (repeat first | assumption | rfl | refine aG_n ?_ rfl rfl)) ?_
  refine wp_istore_n (pc := 1) dX11_makeGuess_1 (by decide) ?_
  refine wp_iconst (pc := 2) (v := 0) dX11_makeGuess_2 (by decide) ?_
  refine wp_istore (pc := 3) dX11_makeGuess_3 (by decide) ?_
  skip
  refine l_guess (μ := μ) hp hc (fun μ1 o1 r1 s1 L g0 => ?_) 6 0 (by omega) μ (fun _ _ => rfl) rfl (fun s hs => absurd hs (by omega)) _ (by first | rfl | assumption | (repeat first | assumption | rfl | refine aG_n ?_ rfl rfl)) (by first | rfl | assumption | (repeat first | assumption | rfl | refine aG_n ?_ rfl rfl)) (by rw [show cn p 0 = 0 from rfl, Nat.pow_zero, Nat.div_one]; first | rfl | assumption | (repeat first | assumption | rfl | refine aG_n ?_ rfl rfl)) (by first | rfl | assumption | (repeat first | assumption | rfl | refine aG_n ?_ rfl rfl))
  refine wp_aload_n (pc := 52) dX11_makeGuess_52 (by first | rfl | assumption | (repeat first | assumption | rfl | refine aG_n ?_ rfl rfl)) ?_
  refine wp_getR (pc := 53) dX11_makeGuess_53 fl_11_29 (by first | rfl | assumption | exact sh_house (by omega) | exact sh_wish (by omega) | exact sh_wor (by omega) | exact sh_bar (by omega) | exact sh_term (by omega) | exact sh_sheet (by omega) | exact sh_items (by omega) | exact sh_sums (by omega)) rfl ?_
  refine wp_aload_n (pc := 56) dX11_makeGuess_56 (by first | rfl | assumption | (repeat first | assumption | rfl | refine aG_n ?_ rfl rfl)) ?_
  refine wp_getR (pc := 57) dX11_makeGuess_57 fl_11_32 (by first | rfl | assumption | exact sh_house (by omega) | exact sh_wish (by omega) | exact sh_wor (by omega) | exact sh_bar (by omega) | exact sh_term (by omega) | exact sh_sheet (by omega) | exact sh_items (by omega) | exact sh_sums (by omega)) rfl ?_
  refine wp_iconst (pc := 60) (v := 0) dX11_makeGuess_60 (by decide) ?_
  refine wp_cV (pc := 61) dX11_makeGuess_61 lk_11_388 rfl (by decide) rfl (by first | rfl | assumption | exact sh_house (by omega) | exact sh_wish (by omega) | exact sh_wor (by omega) | exact sh_bar (by omega) | exact sh_term (by omega) | exact sh_sheet (by omega) | exact sh_items (by omega) | exact sh_sums (by omega)) rfl rfl ?_
  refine c_X10_tellAlone (W := 7) (A := 10) (len := 6) (fr := 0) Wsh_g rfl (by omega) (by decide) (by decide) (fun μ2 o2 z2 w2 => aK_v ?_)
  refine wp_vreturn (pc := 64) dX11_makeGuess_64 rfl ?_
  refine k _ (fun x hx => (o2.1 x (by omega)).trans (o1 x (by omega))) (o2.2.trans r1) (fun s hs => ?_)
  refine ⟨(w2 s hs).1.trans (sumF_c s 6 (fun j hj => ?_)), (w2 s hs).2⟩
  rw [Nat.zero_add]; exact s1 j hj
theorem c_X4_suppose {d : Nat} (hd : d < 2) (k : ∀ μ', (∀ c, c ≠ 72 → μ'.1 c = μ.1 c) → (∀ c, c ≠ 72 → μ'.2 c = μ.2 c) → (∀ j, j < 4 → μ'.1 72 j = μ.1 74 j) → μ'.2 72 4 = (if d = 0 then 7 else μ.2 74 4) → μ'.2 72 5 = (if d = 0 then μ.2 74 5 else 7) → Q none μ') : WP X mX4_suppose 0 (lv_args 0 [.ref 72, .ref 74, .int (nI d), .ref 7]) [] μ Q := by
  have fin : ∀ x y, Q none (up2 (up2 (up2 (up2 μ.1 72 0 (μ.1 74 0)) 72 1 (μ.1 74 1)) 72 2 (μ.1 74 2)) 72 3 (μ.1 74 3), upR (upR μ.2 72 4 x) 72 5 y) ∨ ¬ (x = (if d = 0 then 7 else μ.2 74 4) ∧ y = (if d = 0 then μ.2 74 5 else 7)) := by
    intro x y
    by_cases e : x = (if d = 0 then 7 else μ.2 74 4) ∧ y = (if d = 0 then μ.2 74 5 else 7)
    · left
      refine k _ (fun c hc => ?_) (fun c hc => ?_) (fun j hj => ?_) ?_ ?_
      · simp (disch := omega) only [up2_ne]
      · funext z; simp [upR, hc]
      · obtain rfl | rfl | rfl | rfl : j = 0 ∨ j = 1 ∨ j = 2 ∨ j = 3 := by omega
        · simp (disch := omega) only [up2_p, up2_at]
        · simp (disch := omega) only [up2_p, up2_at]
        · simp (disch := omega) only [up2_p, up2_at]
        · simp (disch := omega) only [up2_p, up2_at]
      · simp [upR, e.1]
      · simp [upR, e.2]
    · exact Or.inr e
  obtain rfl | rfl : d = 0 ∨ d = 1 := by omega
  · refine wp_aload_n (pc := 0) dX4_suppose_0 (by first | rfl | assumption | (repeat first | assumption | rfl | refine aG_n ?_ rfl rfl)) ?_
    refine wp_aload_n (pc := 1) dX4_suppose_1 (by first | rfl | assumption | (repeat first | assumption | rfl | refine aG_n ?_ rfl rfl)) ?_
    refine wp_getI (pc := 2) dX4_suppose_2 fl_4_21 (by first | rfl | assumption | exact sh_house (by omega) | exact sh_wish (by omega) | exact sh_wor (by omega) | exact sh_bar (by omega) | exact sh_term (by omega) | exact sh_sheet (by omega) | exact sh_items (by omega) | exact sh_sums (by omega)) rfl ?_
    refine wp_putI (pc := 5) dX4_suppose_5 fl_4_21 (by first | rfl | assumption | exact sh_house (by omega) | exact sh_wish (by omega) | exact sh_wor (by omega) | exact sh_bar (by omega) | exact sh_term (by omega) | exact sh_sheet (by omega) | exact sh_items (by omega) | exact sh_sums (by omega)) rfl rfl rfl ?_
    refine wp_aload_n (pc := 8) dX4_suppose_8 (by first | rfl | assumption | (repeat first | assumption | rfl | refine aG_n ?_ rfl rfl)) ?_
    refine wp_aload_n (pc := 9) dX4_suppose_9 (by first | rfl | assumption | (repeat first | assumption | rfl | refine aG_n ?_ rfl rfl)) ?_
    refine wp_getI (pc := 10) dX4_suppose_10 fl_4_24 (by first | rfl | assumption | exact sh_house (by omega) | exact sh_wish (by omega) | exact sh_wor (by omega) | exact sh_bar (by omega) | exact sh_term (by omega) | exact sh_sheet (by omega) | exact sh_items (by omega) | exact sh_sums (by omega)) rfl ?_
    refine wp_putI (pc := 13) dX4_suppose_13 fl_4_24 (by first | rfl | assumption | exact sh_house (by omega) | exact sh_wish (by omega) | exact sh_wor (by omega) | exact sh_bar (by omega) | exact sh_term (by omega) | exact sh_sheet (by omega) | exact sh_items (by omega) | exact sh_sums (by omega)) rfl rfl rfl ?_
    refine wp_aload_n (pc := 16) dX4_suppose_16 (by first | rfl | assumption | (repeat first | assumption | rfl | refine aG_n ?_ rfl rfl)) ?_
    refine wp_aload_n (pc := 17) dX4_suppose_17 (by first | rfl | assumption | (repeat first | assumption | rfl | refine aG_n ?_ rfl rfl)) ?_
    refine wp_getI (pc := 18) dX4_suppose_18 fl_4_30 (by first | rfl | assumption | exact sh_house (by omega) | exact sh_wish (by omega) | exact sh_wor (by omega) | exact sh_bar (by omega) | exact sh_term (by omega) | exact sh_sheet (by omega) | exact sh_items (by omega) | exact sh_sums (by omega)) rfl ?_
    refine wp_putI (pc := 21) dX4_suppose_21 fl_4_30 (by first | rfl | assumption | exact sh_house (by omega) | exact sh_wish (by omega) | exact sh_wor (by omega) | exact sh_bar (by omega) | exact sh_term (by omega) | exact sh_sheet (by omega) | exact sh_items (by omega) | exact sh_sums (by omega)) rfl rfl rfl ?_
    refine wp_aload_n (pc := 24) dX4_suppose_24 (by first | rfl | assumption | (repeat first | assumption | rfl | refine aG_n ?_ rfl rfl)) ?_
    refine wp_aload_n (pc := 25) dX4_suppose_25 (by first | rfl | assumption | (repeat first | assumption | rfl | refine aG_n ?_ rfl rfl)) ?_
    refine wp_getI (pc := 26) dX4_suppose_26 fl_4_33 (by first | rfl | assumption | exact sh_house (by omega) | exact sh_wish (by omega) | exact sh_wor (by omega) | exact sh_bar (by omega) | exact sh_term (by omega) | exact sh_sheet (by omega) | exact sh_items (by omega) | exact sh_sums (by omega)) rfl ?_
    refine wp_putI (pc := 29) dX4_suppose_29 fl_4_33 (by first | rfl | assumption | exact sh_house (by omega) | exact sh_wish (by omega) | exact sh_wor (by omega) | exact sh_bar (by omega) | exact sh_term (by omega) | exact sh_sheet (by omega) | exact sh_items (by omega) | exact sh_sums (by omega)) rfl rfl rfl ?_
    refine wp_aload_n (pc := 32) dX4_suppose_32 (by first | rfl | assumption | (repeat first | assumption | rfl | refine aG_n ?_ rfl rfl)) ?_
    refine wp_iload_n (pc := 33) dX4_suppose_33 (by first | rfl | assumption | (repeat first | assumption | rfl | refine aG_n ?_ rfl rfl)) ?_
    refine wp_if_ne (pc := 34) (tgt := 41) dX4_suppose_34 rfl (fun q => absurd rfl q) (fun _ => ?_)
    refine wp_aload_n (pc := 37) dX4_suppose_37 (by first | rfl | assumption | (repeat first | assumption | rfl | refine aG_n ?_ rfl rfl)) ?_
    refine wp_goto (pc := 38) (tgt := 45) dX4_suppose_38 rfl ?_
    refine wp_putD (pc := 45) dX4_suppose_45 fl_4_40 (by first | rfl | assumption | exact sh_house (by omega) | exact sh_wish (by omega) | exact sh_wor (by omega) | exact sh_bar (by omega) | exact sh_term (by omega) | exact sh_sheet (by omega) | exact sh_items (by omega) | exact sh_sums (by omega)) rfl rfl rfl ?_
    refine wp_aload_n (pc := 48) dX4_suppose_48 (by first | rfl | assumption | (repeat first | assumption | rfl | refine aG_n ?_ rfl rfl)) ?_
    refine wp_iload_n (pc := 49) dX4_suppose_49 (by first | rfl | assumption | (repeat first | assumption | rfl | refine aG_n ?_ rfl rfl)) ?_
    refine wp_if_ne (pc := 50) (tgt := 60) dX4_suppose_50 rfl (fun q => absurd rfl q) (fun _ => ?_)
    refine wp_aload_n (pc := 53) dX4_suppose_53 (by first | rfl | assumption | (repeat first | assumption | rfl | refine aG_n ?_ rfl rfl)) ?_
    refine wp_getD (pc := 54) dX4_suppose_54 fl_4_43 (by first | rfl | assumption | exact sh_house (by omega) | exact sh_wish (by omega) | exact sh_wor (by omega) | exact sh_bar (by omega) | exact sh_term (by omega) | exact sh_sheet (by omega) | exact sh_items (by omega) | exact sh_sums (by omega)) rfl ?_
    refine wp_goto (pc := 57) (tgt := 61) dX4_suppose_57 rfl ?_
    refine wp_putD (pc := 61) dX4_suppose_61 fl_4_43 (by first | rfl | assumption | exact sh_house (by omega) | exact sh_wish (by omega) | exact sh_wor (by omega) | exact sh_bar (by omega) | exact sh_term (by omega) | exact sh_sheet (by omega) | exact sh_items (by omega) | exact sh_sums (by omega)) rfl rfl rfl ?_
    refine wp_vreturn (pc := 64) dX4_suppose_64 rfl ?_
    skip
    simp (disch := omega) only [up2_ne]
    rw [show upR μ.2 72 4 7 74 5 = μ.2 74 5 from by simp [upR]]
    exact (fin 7 (μ.2 74 5)).resolve_right (fun z => z ⟨rfl, rfl⟩)
  · refine wp_aload_n (pc := 0) dX4_suppose_0 (by first | rfl | assumption | (repeat first | assumption | rfl | refine aG_n ?_ rfl rfl)) ?_
    refine wp_aload_n (pc := 1) dX4_suppose_1 (by first | rfl | assumption | (repeat first | assumption | rfl | refine aG_n ?_ rfl rfl)) ?_
    refine wp_getI (pc := 2) dX4_suppose_2 fl_4_21 (by first | rfl | assumption | exact sh_house (by omega) | exact sh_wish (by omega) | exact sh_wor (by omega) | exact sh_bar (by omega) | exact sh_term (by omega) | exact sh_sheet (by omega) | exact sh_items (by omega) | exact sh_sums (by omega)) rfl ?_
    refine wp_putI (pc := 5) dX4_suppose_5 fl_4_21 (by first | rfl | assumption | exact sh_house (by omega) | exact sh_wish (by omega) | exact sh_wor (by omega) | exact sh_bar (by omega) | exact sh_term (by omega) | exact sh_sheet (by omega) | exact sh_items (by omega) | exact sh_sums (by omega)) rfl rfl rfl ?_
    refine wp_aload_n (pc := 8) dX4_suppose_8 (by first | rfl | assumption | (repeat first | assumption | rfl | refine aG_n ?_ rfl rfl)) ?_
    refine wp_aload_n (pc := 9) dX4_suppose_9 (by first | rfl | assumption | (repeat first | assumption | rfl | refine aG_n ?_ rfl rfl)) ?_
    refine wp_getI (pc := 10) dX4_suppose_10 fl_4_24 (by first | rfl | assumption | exact sh_house (by omega) | exact sh_wish (by omega) | exact sh_wor (by omega) | exact sh_bar (by omega) | exact sh_term (by omega) | exact sh_sheet (by omega) | exact sh_items (by omega) | exact sh_sums (by omega)) rfl ?_
    refine wp_putI (pc := 13) dX4_suppose_13 fl_4_24 (by first | rfl | assumption | exact sh_house (by omega) | exact sh_wish (by omega) | exact sh_wor (by omega) | exact sh_bar (by omega) | exact sh_term (by omega) | exact sh_sheet (by omega) | exact sh_items (by omega) | exact sh_sums (by omega)) rfl rfl rfl ?_
    refine wp_aload_n (pc := 16) dX4_suppose_16 (by first | rfl | assumption | (repeat first | assumption | rfl | refine aG_n ?_ rfl rfl)) ?_
    refine wp_aload_n (pc := 17) dX4_suppose_17 (by first | rfl | assumption | (repeat first | assumption | rfl | refine aG_n ?_ rfl rfl)) ?_
    refine wp_getI (pc := 18) dX4_suppose_18 fl_4_30 (by first | rfl | assumption | exact sh_house (by omega) | exact sh_wish (by omega) | exact sh_wor (by omega) | exact sh_bar (by omega) | exact sh_term (by omega) | exact sh_sheet (by omega) | exact sh_items (by omega) | exact sh_sums (by omega)) rfl ?_
    refine wp_putI (pc := 21) dX4_suppose_21 fl_4_30 (by first | rfl | assumption | exact sh_house (by omega) | exact sh_wish (by omega) | exact sh_wor (by omega) | exact sh_bar (by omega) | exact sh_term (by omega) | exact sh_sheet (by omega) | exact sh_items (by omega) | exact sh_sums (by omega)) rfl rfl rfl ?_
    refine wp_aload_n (pc := 24) dX4_suppose_24 (by first | rfl | assumption | (repeat first | assumption | rfl | refine aG_n ?_ rfl rfl)) ?_
    refine wp_aload_n (pc := 25) dX4_suppose_25 (by first | rfl | assumption | (repeat first | assumption | rfl | refine aG_n ?_ rfl rfl)) ?_
    refine wp_getI (pc := 26) dX4_suppose_26 fl_4_33 (by first | rfl | assumption | exact sh_house (by omega) | exact sh_wish (by omega) | exact sh_wor (by omega) | exact sh_bar (by omega) | exact sh_term (by omega) | exact sh_sheet (by omega) | exact sh_items (by omega) | exact sh_sums (by omega)) rfl ?_
    refine wp_putI (pc := 29) dX4_suppose_29 fl_4_33 (by first | rfl | assumption | exact sh_house (by omega) | exact sh_wish (by omega) | exact sh_wor (by omega) | exact sh_bar (by omega) | exact sh_term (by omega) | exact sh_sheet (by omega) | exact sh_items (by omega) | exact sh_sums (by omega)) rfl rfl rfl ?_
    refine wp_aload_n (pc := 32) dX4_suppose_32 (by first | rfl | assumption | (repeat first | assumption | rfl | refine aG_n ?_ rfl rfl)) ?_
    refine wp_iload_n (pc := 33) dX4_suppose_33 (by first | rfl | assumption | (repeat first | assumption | rfl | refine aG_n ?_ rfl rfl)) ?_
    refine wp_if_ne (pc := 34) (tgt := 41) dX4_suppose_34 rfl (fun _ => ?_) (fun q => absurd q (by decide))
    refine wp_aload_n (pc := 41) dX4_suppose_41 (by first | rfl | assumption | (repeat first | assumption | rfl | refine aG_n ?_ rfl rfl)) ?_
    refine wp_getD (pc := 42) dX4_suppose_42 fl_4_40 (by first | rfl | assumption | exact sh_house (by omega) | exact sh_wish (by omega) | exact sh_wor (by omega) | exact sh_bar (by omega) | exact sh_term (by omega) | exact sh_sheet (by omega) | exact sh_items (by omega) | exact sh_sums (by omega)) rfl ?_
    refine wp_putD (pc := 45) dX4_suppose_45 fl_4_40 (by first | rfl | assumption | exact sh_house (by omega) | exact sh_wish (by omega) | exact sh_wor (by omega) | exact sh_bar (by omega) | exact sh_term (by omega) | exact sh_sheet (by omega) | exact sh_items (by omega) | exact sh_sums (by omega)) rfl rfl rfl ?_
    refine wp_aload_n (pc := 48) dX4_suppose_48 (by first | rfl | assumption | (repeat first | assumption | rfl | refine aG_n ?_ rfl rfl)) ?_
    refine wp_iload_n (pc := 49) dX4_suppose_49 (by first | rfl | assumption | (repeat first | assumption | rfl | refine aG_n ?_ rfl rfl)) ?_
    refine wp_if_ne (pc := 50) (tgt := 60) dX4_suppose_50 rfl (fun _ => ?_) (fun q => absurd q (by decide))
    refine wp_aload_n (pc := 60) dX4_suppose_60 (by first | rfl | assumption | (repeat first | assumption | rfl | refine aG_n ?_ rfl rfl)) ?_
    refine wp_putD (pc := 61) dX4_suppose_61 fl_4_43 (by first | rfl | assumption | exact sh_house (by omega) | exact sh_wish (by omega) | exact sh_wor (by omega) | exact sh_bar (by omega) | exact sh_term (by omega) | exact sh_sheet (by omega) | exact sh_items (by omega) | exact sh_sums (by omega)) rfl rfl rfl ?_
    refine wp_vreturn (pc := 64) dX4_suppose_64 rfl ?_
    skip
    simp (disch := omega) only [up2_ne]
    exact (fin (μ.2 74 4) 7).resolve_right (fun z => z ⟨rfl, rfl⟩)
theorem c_X7_isWord {w pl : Nat} {kd st pr : Int32} (hw : w ≤ 20) (h73 : μ.1 73 3 = nI w) (hpl : pl < w) (kt : (μ.1 75 pl = kd ∧ μ.1 76 pl = st ∧ μ.1 77 pl = pr) → Q (some (.int 1)) μ) (kf : ¬ (μ.1 75 pl = kd ∧ μ.1 76 pl = st ∧ μ.1 77 pl = pr) → Q (some (.int 0)) μ) : WP X mX7_isWord 0 (lv_args 0 [.ref 73, .int (nI pl), .int kd, .int st, .int pr]) [] μ Q := by
  have eq : (nI pl).toNatClampNeg = pl := nI_clamp (by omega)
  have c : inT (nI pl) w := by unfold inT; rw [nI_toInt (by omega)]; omega
  refine wp_aload_n (pc := 0) dX7_isWord_0 (by first | rfl | assumption | (repeat first | assumption | rfl | refine aG_n ?_ rfl rfl)) ?_
  refine wp_iload_n (pc := 1) dX7_isWord_1 (by first | rfl | assumption | (repeat first | assumption | rfl | refine aG_n ?_ rfl rfl)) ?_
  refine wp_cV (pc := 2) dX7_isWord_2 lk_7_45 rfl (by decide) rfl (by first | rfl | assumption | exact sh_house (by omega) | exact sh_wish (by omega) | exact sh_wor (by omega) | exact sh_bar (by omega) | exact sh_term (by omega) | exact sh_sheet (by omega) | exact sh_items (by omega) | exact sh_sums (by omega)) rfl rfl (c_X7_hasWord hw h73 (fun _ => aK_i ?_) (fun q => absurd c q))
  refine wp_if_eq (pc := 5) (tgt := 43) dX7_isWord_5 rfl (fun q => absurd q (by decide)) (fun _ => ?_)
  refine wp_aload_n (pc := 8) dX7_isWord_8 (by first | rfl | assumption | (repeat first | assumption | rfl | refine aG_n ?_ rfl rfl)) ?_
  refine wp_getR (pc := 9) dX7_isWord_9 fl_7_18 (by first | rfl | assumption | exact sh_house (by omega) | exact sh_wish (by omega) | exact sh_wor (by omega) | exact sh_bar (by omega) | exact sh_term (by omega) | exact sh_sheet (by omega) | exact sh_items (by omega) | exact sh_sums (by omega)) rfl ?_
  refine wp_iload_n (pc := 12) dX7_isWord_12 (by first | rfl | assumption | (repeat first | assumption | rfl | refine aG_n ?_ rfl rfl)) ?_
  refine wp_iald (pc := 13) dX7_isWord_13 (by first | rfl | assumption | exact sh_house (by omega) | exact sh_wish (by omega) | exact sh_wor (by omega) | exact sh_bar (by omega) | exact sh_term (by omega) | exact sh_sheet (by omega) | exact sh_items (by omega) | exact sh_sums (by omega)) (vp_in_nI (by omega) (by decide)) ?_
  refine wp_iload_n (pc := 14) dX7_isWord_14 (by first | rfl | assumption | (repeat first | assumption | rfl | refine aG_n ?_ rfl rfl)) ?_
  refine wp_icmp_ne (pc := 15) (tgt := 43) dX7_isWord_15 rfl (fun c15_1 => ?_) (fun c15_1 => ?_)
  · refine wp_iconst (pc := 43) (v := 0) dX7_isWord_43 (by decide) ?_
    refine wp_ireturn (pc := 44) dX7_isWord_44 rfl (by first | rfl | decide | assumption) ?_
    simp only [eq] at *; exact kf (fun z => by first | exact absurd z.1 (by assumption) | exact absurd z.2.1 (by assumption) | exact absurd z.2.2 (by assumption))
  · refine wp_aload_n (pc := 18) dX7_isWord_18 (by first | rfl | assumption | (repeat first | assumption | rfl | refine aG_n ?_ rfl rfl)) ?_
    refine wp_getR (pc := 19) dX7_isWord_19 fl_7_22 (by first | rfl | assumption | exact sh_house (by omega) | exact sh_wish (by omega) | exact sh_wor (by omega) | exact sh_bar (by omega) | exact sh_term (by omega) | exact sh_sheet (by omega) | exact sh_items (by omega) | exact sh_sums (by omega)) rfl ?_
    refine wp_iload_n (pc := 22) dX7_isWord_22 (by first | rfl | assumption | (repeat first | assumption | rfl | refine aG_n ?_ rfl rfl)) ?_
    refine wp_iald (pc := 23) dX7_isWord_23 (by first | rfl | assumption | exact sh_house (by omega) | exact sh_wish (by omega) | exact sh_wor (by omega) | exact sh_bar (by omega) | exact sh_term (by omega) | exact sh_sheet (by omega) | exact sh_items (by omega) | exact sh_sums (by omega)) (vp_in_nI (by omega) (by decide)) ?_
    refine wp_iload_n (pc := 24) dX7_isWord_24 (by first | rfl | assumption | (repeat first | assumption | rfl | refine aG_n ?_ rfl rfl)) ?_
    refine wp_icmp_ne (pc := 25) (tgt := 43) dX7_isWord_25 rfl (fun c25_2 => ?_) (fun c25_2 => ?_)
    · refine wp_iconst (pc := 43) (v := 0) dX7_isWord_43 (by decide) ?_
      refine wp_ireturn (pc := 44) dX7_isWord_44 rfl (by first | rfl | decide | assumption) ?_
      simp only [eq] at *; exact kf (fun z => by first | exact absurd z.1 (by assumption) | exact absurd z.2.1 (by assumption) | exact absurd z.2.2 (by assumption))
    · refine wp_aload_n (pc := 28) dX7_isWord_28 (by first | rfl | assumption | (repeat first | assumption | rfl | refine aG_n ?_ rfl rfl)) ?_
      refine wp_getR (pc := 29) dX7_isWord_29 fl_7_25 (by first | rfl | assumption | exact sh_house (by omega) | exact sh_wish (by omega) | exact sh_wor (by omega) | exact sh_bar (by omega) | exact sh_term (by omega) | exact sh_sheet (by omega) | exact sh_items (by omega) | exact sh_sums (by omega)) rfl ?_
      refine wp_iload_n (pc := 32) dX7_isWord_32 (by first | rfl | assumption | (repeat first | assumption | rfl | refine aG_n ?_ rfl rfl)) ?_
      refine wp_iald (pc := 33) dX7_isWord_33 (by first | rfl | assumption | exact sh_house (by omega) | exact sh_wish (by omega) | exact sh_wor (by omega) | exact sh_bar (by omega) | exact sh_term (by omega) | exact sh_sheet (by omega) | exact sh_items (by omega) | exact sh_sums (by omega)) (vp_in_nI (by omega) (by decide)) ?_
      refine wp_iload (pc := 34) dX7_isWord_34 (by first | rfl | assumption | (repeat first | assumption | rfl | refine aG_n ?_ rfl rfl)) ?_
      refine wp_icmp_ne (pc := 36) (tgt := 43) dX7_isWord_36 rfl (fun c36_3 => ?_) (fun c36_3 => ?_)
      · refine wp_iconst (pc := 43) (v := 0) dX7_isWord_43 (by decide) ?_
        refine wp_ireturn (pc := 44) dX7_isWord_44 rfl (by first | rfl | decide | assumption) ?_
        simp only [eq] at *; exact kf (fun z => by first | exact absurd z.1 (by assumption) | exact absurd z.2.1 (by assumption) | exact absurd z.2.2 (by assumption))
      · refine wp_iconst (pc := 39) (v := 1) dX7_isWord_39 (by decide) ?_
        refine wp_goto (pc := 40) (tgt := 44) dX7_isWord_40 rfl ?_
        refine wp_ireturn (pc := 44) dX7_isWord_44 rfl (by first | rfl | decide | assumption) ?_
        simp only [eq] at *; exact kt ⟨by assumption, by assumption, by assumption⟩
/-- the word at a place is the one that would have been chosen -/
def CW (M : MM) (P : Nat) (t wv : Nat → Nat) (q : (Nat → Nat) × Nat) (lv : Nat → Int32) (pl : Nat) : Prop := ∃ kd st pr, chR (suP M M P t wv pl (lv (pl / 2))) (0 < pl ∧ isOf M (pl - 1)) q (pl / 2) (pfC M t wv (pl % 2) (lv (pl / 2))) kd st pr ∧ M 100 pl = kd ∧ M 101 pl = st ∧ M 102 pl = pr
def lvH (M : MM) (i : Nat) : Nat → Int32 := fun k => lvV (M (55 + 4 * i) 3) (M (55 + 4 * i) 4) (M (55 + 4 * i) 2) k
theorem l_whs {h d n w : Nat} {t wv : Nat → Nat} {q : (Nat → Nat) × Nat} (hh : h < 4) (hd : d < 2) (hPr : Pr μ 72 t wv) (hN : PrN 72 wv) (hw : w ≤ 20) (h73 : μ.1 73 3 = nI w) (hk : ∀ j, j < 20 → μ.1 75 j = μ.1 100 j ∧ μ.1 76 j = μ.1 101 j ∧ μ.1 77 j = μ.1 102 j) (hof : ∀ j, j < w → isOf μ.1 j → μ.1 101 j = nI (wu μ.1 j) ∧ wu μ.1 j < 64) (hn : ∀ k, k < n → 2 * k + d < w) (hq : q.2 ≤ 64) (hq2 : ∀ j, j < q.2 → q.1 j < 64) (kt : (∀ k, k < n → CW μ.1 72 t wv q (lvH μ.1 h) (2 * k + d)) → ∀ μ', off2 μ μ' → Q (some (.int 1)) μ') (kf : ¬ (∀ k, k < n → CW μ.1 72 t wv q (lvH μ.1 h) (2 * k + d)) → ∀ μ', off2 μ μ' → Q (some (.int 0)) μ') : ∀ (f k : Nat), k + f = n → (∀ j, j < k → CW μ.1 72 t wv q (lvH μ.1 h) (2 * j + d)) → ∀ μ', off2 μ μ' → μ'.1 29 4 = nI q.2 → (∀ j, j < q.2 → μ'.1 30 j = nI (q.1 j)) → ∀ L : aL, aL_get L 0 = some (.ref 0) → aL_get L 1 = some (.ref (55 + 4 * h)) → aL_get L 2 = some (.int (nI d)) → aL_get L 3 = some (.int (nI n)) → aL_get L 4 = some (.int (nI k)) → WP X mX11_wouldHaveSaid 15 L [] μ' Q
  | 0, k, hkn, hC, μ', ho, h29, h30, L, g0, g1, g2, g3, g4 => by
    obtain rfl : k = n := by omega
    have hk31 : k < 2 ^ 31 := by
      by_cases z : k = 0
      · omega
      · have := hn (k - 1) (by omega); omega
    refine wp_iload (pc := 15) dX11_wouldHaveSaid_15 (by first | rfl | assumption | (repeat first | assumption | rfl | refine aG_n ?_ rfl rfl)) ?_
    refine wp_iload_n (pc := 17) dX11_wouldHaveSaid_17 (by first | rfl | assumption | (repeat first | assumption | rfl | refine aG_n ?_ rfl rfl)) ?_
    refine wp_icmp_ge (pc := 18) (tgt := 88) dX11_wouldHaveSaid_18 rfl (fun _ => ?_) (fun q => absurd (nI_le (by omega) hk31) q)
    refine wp_iconst (pc := 88) (v := 1) dX11_wouldHaveSaid_88 (by decide) ?_
    refine wp_ireturn (pc := 89) dX11_wouldHaveSaid_89 rfl (by first | rfl | decide | assumption) ?_
    exact kt hC _ ho
  | f + 1, k, hkn, hC, μ', ho, h29, h30, L, g0, g1, g2, g3, g4 => by
    have hpl := hn k (by omega)
    have hn31 : n < 2 ^ 31 := by have := hn (n - 1) (by omega); omega
    have epl : (2 : Int32) * nI k + nI d = nI (2 * k + d) := by rw [show (2 : Int32) = nI 2 from rfl, pk_mul, nI_add]
    have hr : ∀ c, c ≠ 29 → c ≠ 30 → μ'.1 c = μ.1 c := ho.1
    have hPr' := Pr_2 hPr hN ho
    have hP2 : (2 * k + d) / 2 = k := by omega
    have elv : lvV (μ'.1 (55 + 4 * h) 3) (μ'.1 (55 + 4 * h) 4) (μ'.1 (55 + 4 * h) 2) ((2 * k + d) / 2) = lvH μ.1 h ((2 * k + d) / 2) := by unfold lvH; rw [hr _ (by omega) (by omega)]
    have esu : ∀ l, suP μ'.1 μ.1 72 t wv (2 * k + d) l ↔ suP μ.1 μ.1 72 t wv (2 * k + d) l := fun l => suP_c (hr 72 (by omega) (by omega)) (fun d hd => by have := hN.2 d hd; exact ⟨hr _ (by omega) (by omega), hr _ (by omega) (by omega)⟩) rfl rfl rfl
    have epf : ∀ l s, pfC μ'.1 t wv ((2 * k + d) % 2) l s = pfC μ.1 t wv ((2 * k + d) % 2) l s := fun l s => by
      have := hN.2 _ (Nat.mod_lt (2 * k + d) (by decide : 0 < 2))
      unfold pfC gnd; rw [hr _ (by omega) (by omega)]
    have hs1 : shp[(72 : Nat)]? = some (.inl (4, [(0, 0), (0, 0), (0, 0), (0, 0), (2, 0), (2, 0)])) := rfl
    have key : ∀ (μ2 : Mm) (kd st pr : Int32), (∀ c, c ≠ 29 → μ2.1 c = μ'.1 c) → μ2.2 = μ'.2 → μ2.1 29 4 = nI q.2 → chR (suP μ.1 μ.1 72 t wv (2 * k + d) (lvH μ.1 h ((2 * k + d) / 2))) (0 < 2 * k + d ∧ isOf μ.1 (2 * k + d - 1)) q ((2 * k + d) / 2) (pfC μ.1 t wv ((2 * k + d) % 2) (lvH μ.1 h ((2 * k + d) / 2))) kd st pr → μ2.1 29 0 = kd → μ2.1 29 1 = st → μ2.1 29 2 = pr → ∀ L : aL, aL_get L 0 = some (.ref 0) → aL_get L 1 = some (.ref (55 + 4 * h)) → aL_get L 2 = some (.int (nI d)) → aL_get L 3 = some (.int (nI n)) → aL_get L 4 = some (.int (nI k)) → aL_get L 5 = some (.int (nI (2 * k + d))) → WP X mX11_wouldHaveSaid 47 L [] μ2 Q := by
      intro μ2 kd st pr s2 r2 c2 hR e0 e1 e2 L g0 g1 g2 g3 g4 g5
      have o2 : off2 μ μ2 := ⟨fun c h1 h2 => (s2 c h1).trans (hr c h1 h2), r2.trans ho.2⟩
      have w73 : μ2.1 73 3 = nI w := by rw [o2.1 73 (by omega) (by omega)]; exact h73
      have ek := hk (2 * k + d) (by omega)
      by_cases cw : μ.1 100 (2 * k + d) = kd ∧ μ.1 101 (2 * k + d) = st ∧ μ.1 102 (2 * k + d) = pr
      · have cw' : μ2.1 75 (2 * k + d) = kd ∧ μ2.1 76 (2 * k + d) = st ∧ μ2.1 77 (2 * k + d) = pr := by
          rw [o2.1 75 (by omega) (by omega), o2.1 76 (by omega) (by omega), o2.1 77 (by omega) (by omega), ek.1, ek.2.1, ek.2.2]; exact cw
        refine wp_aload_n (pc := 47) dX11_wouldHaveSaid_47 (by first | rfl | assumption | (repeat first | assumption | rfl | refine aG_n ?_ rfl rfl)) ?_
        refine wp_getR (pc := 48) dX11_wouldHaveSaid_48 fl_11_92 (by first | rfl | assumption | exact sh_house (by omega) | exact sh_wish (by omega) | exact sh_wor (by omega) | exact sh_bar (by omega) | exact sh_term (by omega) | exact sh_sheet (by omega) | exact sh_items (by omega) | exact sh_sums (by omega)) rfl ?_
        refine wp_iload (pc := 51) dX11_wouldHaveSaid_51 (by first | rfl | assumption | (repeat first | assumption | rfl | refine aG_n ?_ rfl rfl)) ?_
        refine wp_aload_n (pc := 53) dX11_wouldHaveSaid_53 (by first | rfl | assumption | (repeat first | assumption | rfl | refine aG_n ?_ rfl rfl)) ?_
        refine wp_getR (pc := 54) dX11_wouldHaveSaid_54 fl_11_46 (by first | rfl | assumption | exact sh_house (by omega) | exact sh_wish (by omega) | exact sh_wor (by omega) | exact sh_bar (by omega) | exact sh_term (by omega) | exact sh_sheet (by omega) | exact sh_items (by omega) | exact sh_sums (by omega)) rfl ?_
        refine wp_getI (pc := 57) dX11_wouldHaveSaid_57 fl_11_403 (by first | rfl | assumption | exact sh_house (by omega) | exact sh_wish (by omega) | exact sh_wor (by omega) | exact sh_bar (by omega) | exact sh_term (by omega) | exact sh_sheet (by omega) | exact sh_items (by omega) | exact sh_sums (by omega)) rfl ?_
        refine wp_aload_n (pc := 60) dX11_wouldHaveSaid_60 (by first | rfl | assumption | (repeat first | assumption | rfl | refine aG_n ?_ rfl rfl)) ?_
        refine wp_getR (pc := 61) dX11_wouldHaveSaid_61 fl_11_46 (by first | rfl | assumption | exact sh_house (by omega) | exact sh_wish (by omega) | exact sh_wor (by omega) | exact sh_bar (by omega) | exact sh_term (by omega) | exact sh_sheet (by omega) | exact sh_items (by omega) | exact sh_sums (by omega)) rfl ?_
        refine wp_getI (pc := 64) dX11_wouldHaveSaid_64 fl_11_406 (by first | rfl | assumption | exact sh_house (by omega) | exact sh_wish (by omega) | exact sh_wor (by omega) | exact sh_bar (by omega) | exact sh_term (by omega) | exact sh_sheet (by omega) | exact sh_items (by omega) | exact sh_sums (by omega)) rfl ?_
        refine wp_aload_n (pc := 67) dX11_wouldHaveSaid_67 (by first | rfl | assumption | (repeat first | assumption | rfl | refine aG_n ?_ rfl rfl)) ?_
        refine wp_getR (pc := 68) dX11_wouldHaveSaid_68 fl_11_46 (by first | rfl | assumption | exact sh_house (by omega) | exact sh_wish (by omega) | exact sh_wor (by omega) | exact sh_bar (by omega) | exact sh_term (by omega) | exact sh_sheet (by omega) | exact sh_items (by omega) | exact sh_sums (by omega)) rfl ?_
        refine wp_getI (pc := 71) dX11_wouldHaveSaid_71 fl_11_409 (by first | rfl | assumption | exact sh_house (by omega) | exact sh_wish (by omega) | exact sh_wor (by omega) | exact sh_bar (by omega) | exact sh_term (by omega) | exact sh_sheet (by omega) | exact sh_items (by omega) | exact sh_sums (by omega)) rfl ?_
        refine wp_cV (pc := 74) dX11_wouldHaveSaid_74 lk_11_423 rfl (by decide) rfl (by first | rfl | assumption | exact sh_house (by omega) | exact sh_wish (by omega) | exact sh_wor (by omega) | exact sh_bar (by omega) | exact sh_term (by omega) | exact sh_sheet (by omega) | exact sh_items (by omega) | exact sh_sums (by omega)) rfl rfl ?_
        rw [e0, e1, e2]
        refine c_X7_isWord hw w73 hpl (fun _ => aK_i ?_) (fun z => absurd cw' z)
        refine wp_if_ne (pc := 77) (tgt := 82) dX11_wouldHaveSaid_77 rfl (fun _ => ?_) (fun q => absurd q (by decide))
        refine wp_iinc (pc := 82) dX11_wouldHaveSaid_82 (by decide) (by first | rfl | assumption | (repeat first | assumption | rfl | refine aG_n ?_ rfl rfl)) rfl ?_
        refine wp_goto (pc := 85) (tgt := 15) dX11_wouldHaveSaid_85 rfl ?_
        exact l_whs hh hd hPr hN hw h73 hk hof hn hq hq2 kt kf f (k + 1) (by omega) (fun j hj => if e : j = k then e ▸ ⟨kd, st, pr, hR, cw⟩ else hC j (by omega)) _ o2 c2 (fun j hj => by rw [s2 30 (by omega)]; exact h30 j hj) _ (by first | rfl | assumption | (repeat first | assumption | rfl | refine aG_n ?_ rfl rfl)) (by first | rfl | assumption | (repeat first | assumption | rfl | refine aG_n ?_ rfl rfl)) (by first | rfl | assumption | (repeat first | assumption | rfl | refine aG_n ?_ rfl rfl)) (by first | rfl | assumption | (repeat first | assumption | rfl | refine aG_n ?_ rfl rfl)) (by rw [← nI_i1]; first | rfl | assumption | (repeat first | assumption | rfl | refine aG_n ?_ rfl rfl))
      · have cw' : ¬ (μ2.1 75 (2 * k + d) = kd ∧ μ2.1 76 (2 * k + d) = st ∧ μ2.1 77 (2 * k + d) = pr) := by
          rw [o2.1 75 (by omega) (by omega), o2.1 76 (by omega) (by omega), o2.1 77 (by omega) (by omega), ek.1, ek.2.1, ek.2.2]; exact cw
        refine wp_aload_n (pc := 47) dX11_wouldHaveSaid_47 (by first | rfl | assumption | (repeat first | assumption | rfl | refine aG_n ?_ rfl rfl)) ?_
        refine wp_getR (pc := 48) dX11_wouldHaveSaid_48 fl_11_92 (by first | rfl | assumption | exact sh_house (by omega) | exact sh_wish (by omega) | exact sh_wor (by omega) | exact sh_bar (by omega) | exact sh_term (by omega) | exact sh_sheet (by omega) | exact sh_items (by omega) | exact sh_sums (by omega)) rfl ?_
        refine wp_iload (pc := 51) dX11_wouldHaveSaid_51 (by first | rfl | assumption | (repeat first | assumption | rfl | refine aG_n ?_ rfl rfl)) ?_
        refine wp_aload_n (pc := 53) dX11_wouldHaveSaid_53 (by first | rfl | assumption | (repeat first | assumption | rfl | refine aG_n ?_ rfl rfl)) ?_
        refine wp_getR (pc := 54) dX11_wouldHaveSaid_54 fl_11_46 (by first | rfl | assumption | exact sh_house (by omega) | exact sh_wish (by omega) | exact sh_wor (by omega) | exact sh_bar (by omega) | exact sh_term (by omega) | exact sh_sheet (by omega) | exact sh_items (by omega) | exact sh_sums (by omega)) rfl ?_
        refine wp_getI (pc := 57) dX11_wouldHaveSaid_57 fl_11_403 (by first | rfl | assumption | exact sh_house (by omega) | exact sh_wish (by omega) | exact sh_wor (by omega) | exact sh_bar (by omega) | exact sh_term (by omega) | exact sh_sheet (by omega) | exact sh_items (by omega) | exact sh_sums (by omega)) rfl ?_
        refine wp_aload_n (pc := 60) dX11_wouldHaveSaid_60 (by first | rfl | assumption | (repeat first | assumption | rfl | refine aG_n ?_ rfl rfl)) ?_
        refine wp_getR (pc := 61) dX11_wouldHaveSaid_61 fl_11_46 (by first | rfl | assumption | exact sh_house (by omega) | exact sh_wish (by omega) | exact sh_wor (by omega) | exact sh_bar (by omega) | exact sh_term (by omega) | exact sh_sheet (by omega) | exact sh_items (by omega) | exact sh_sums (by omega)) rfl ?_
        refine wp_getI (pc := 64) dX11_wouldHaveSaid_64 fl_11_406 (by first | rfl | assumption | exact sh_house (by omega) | exact sh_wish (by omega) | exact sh_wor (by omega) | exact sh_bar (by omega) | exact sh_term (by omega) | exact sh_sheet (by omega) | exact sh_items (by omega) | exact sh_sums (by omega)) rfl ?_
        refine wp_aload_n (pc := 67) dX11_wouldHaveSaid_67 (by first | rfl | assumption | (repeat first | assumption | rfl | refine aG_n ?_ rfl rfl)) ?_
        refine wp_getR (pc := 68) dX11_wouldHaveSaid_68 fl_11_46 (by first | rfl | assumption | exact sh_house (by omega) | exact sh_wish (by omega) | exact sh_wor (by omega) | exact sh_bar (by omega) | exact sh_term (by omega) | exact sh_sheet (by omega) | exact sh_items (by omega) | exact sh_sums (by omega)) rfl ?_
        refine wp_getI (pc := 71) dX11_wouldHaveSaid_71 fl_11_409 (by first | rfl | assumption | exact sh_house (by omega) | exact sh_wish (by omega) | exact sh_wor (by omega) | exact sh_bar (by omega) | exact sh_term (by omega) | exact sh_sheet (by omega) | exact sh_items (by omega) | exact sh_sums (by omega)) rfl ?_
        refine wp_cV (pc := 74) dX11_wouldHaveSaid_74 lk_11_423 rfl (by decide) rfl (by first | rfl | assumption | exact sh_house (by omega) | exact sh_wish (by omega) | exact sh_wor (by omega) | exact sh_bar (by omega) | exact sh_term (by omega) | exact sh_sheet (by omega) | exact sh_items (by omega) | exact sh_sums (by omega)) rfl rfl ?_
        rw [e0, e1, e2]
        refine c_X7_isWord hw w73 hpl (fun z => absurd z cw') (fun _ => aK_i ?_)
        refine wp_if_ne (pc := 77) (tgt := 82) dX11_wouldHaveSaid_77 rfl (fun q => absurd rfl q) (fun _ => ?_)
        refine wp_iconst (pc := 80) (v := 0) dX11_wouldHaveSaid_80 (by decide) ?_
        refine wp_ireturn (pc := 81) dX11_wouldHaveSaid_81 rfl (by first | rfl | decide | assumption) ?_
        skip
        refine kf (fun z => ?_) _ o2
        obtain ⟨kd', st', pr', hR', x1, x2, x3⟩ := z k (by omega)
        obtain ⟨rfl, rfl, rfl⟩ := chR_u hR hR'
        exact cw ⟨x1, x2, x3⟩
    refine wp_iload (pc := 15) dX11_wouldHaveSaid_15 (by first | rfl | assumption | (repeat first | assumption | rfl | refine aG_n ?_ rfl rfl)) ?_
    refine wp_iload_n (pc := 17) dX11_wouldHaveSaid_17 (by first | rfl | assumption | (repeat first | assumption | rfl | refine aG_n ?_ rfl rfl)) ?_
    refine wp_icmp_ge (pc := 18) (tgt := 88) dX11_wouldHaveSaid_18 rfl (fun q => absurd q (nI_ge (by omega) hn31)) (fun _ => ?_)
    refine wp_iconst (pc := 21) (v := 2) dX11_wouldHaveSaid_21 (by decide) ?_
    refine wp_iload (pc := 22) dX11_wouldHaveSaid_22 (by first | rfl | assumption | (repeat first | assumption | rfl | refine aG_n ?_ rfl rfl)) ?_
    refine wp_imul (pc := 24) dX11_wouldHaveSaid_24 ?_
    refine wp_iload_n (pc := 25) dX11_wouldHaveSaid_25 (by first | rfl | assumption | (repeat first | assumption | rfl | refine aG_n ?_ rfl rfl)) ?_
    refine wp_iadd (pc := 26) dX11_wouldHaveSaid_26 ?_
    refine wp_istore (pc := 27) dX11_wouldHaveSaid_27 (by decide) ?_
    refine wp_aload_n (pc := 29) dX11_wouldHaveSaid_29 (by first | rfl | assumption | (repeat first | assumption | rfl | refine aG_n ?_ rfl rfl)) ?_
    refine wp_getR (pc := 30) dX11_wouldHaveSaid_30 fl_11_46 (by first | rfl | assumption | exact sh_house (by omega) | exact sh_wish (by omega) | exact sh_wor (by omega) | exact sh_bar (by omega) | exact sh_term (by omega) | exact sh_sheet (by omega) | exact sh_items (by omega) | exact sh_sums (by omega)) rfl ?_
    refine wp_aload_n (pc := 33) dX11_wouldHaveSaid_33 (by first | rfl | assumption | (repeat first | assumption | rfl | refine aG_n ?_ rfl rfl)) ?_
    refine wp_getR (pc := 34) dX11_wouldHaveSaid_34 fl_11_84 (by first | rfl | assumption | exact sh_house (by omega) | exact sh_wish (by omega) | exact sh_wor (by omega) | exact sh_bar (by omega) | exact sh_term (by omega) | exact sh_sheet (by omega) | exact sh_items (by omega) | exact sh_sums (by omega)) rfl ?_
    refine wp_aload_n (pc := 37) dX11_wouldHaveSaid_37 (by first | rfl | assumption | (repeat first | assumption | rfl | refine aG_n ?_ rfl rfl)) ?_
    refine wp_aload_n (pc := 38) dX11_wouldHaveSaid_38 (by first | rfl | assumption | (repeat first | assumption | rfl | refine aG_n ?_ rfl rfl)) ?_
    refine wp_getR (pc := 39) dX11_wouldHaveSaid_39 fl_11_92 (by first | rfl | assumption | exact sh_house (by omega) | exact sh_wish (by omega) | exact sh_wor (by omega) | exact sh_bar (by omega) | exact sh_term (by omega) | exact sh_sheet (by omega) | exact sh_items (by omega) | exact sh_sums (by omega)) rfl ?_
    refine wp_iload (pc := 42) dX11_wouldHaveSaid_42 (by first | rfl | assumption | (repeat first | assumption | rfl | refine aG_n ?_ rfl rfl)) ?_
    refine wp_cV (pc := 44) dX11_wouldHaveSaid_44 lk_11_399 rfl (by decide) rfl (by first | rfl | assumption | exact sh_house (by omega) | exact sh_wish (by omega) | exact sh_wor (by omega) | exact sh_bar (by omega) | exact sh_term (by omega) | exact sh_sheet (by omega) | exact sh_items (by omega) | exact sh_sums (by omega)) rfl rfl ?_
    rw [epl]
    refine c_X3_choose (N := μ.1) hh hPr' hN hw (by rw [hr 73 (by omega) (by omega)]; exact h73) (fun j hj => by rw [hr 75 (by omega) (by omega), hr 76 (by omega) (by omega), hr 77 (by omega) (by omega)]; exact hk j hj) hof (by omega) hq hq2 h29 h30 (fun μ2 kd st pr s2 r2 c2 e0 e1 e2 hR => aK_v ?_)
    skip
    rw [elv] at hR
    exact key μ2 kd st pr s2 r2 c2 (chR_c (esu _) Iff.rfl rfl (fun s => epf _ s) hR) e0 e1 e2 _ (by first | rfl | assumption | (repeat first | assumption | rfl | refine aG_n ?_ rfl rfl)) (by first | rfl | assumption | (repeat first | assumption | rfl | refine aG_n ?_ rfl rfl)) (by first | rfl | assumption | (repeat first | assumption | rfl | refine aG_n ?_ rfl rfl)) (by first | rfl | assumption | (repeat first | assumption | rfl | refine aG_n ?_ rfl rfl)) (by first | rfl | assumption | (repeat first | assumption | rfl | refine aG_n ?_ rfl rfl)) (by first | rfl | assumption | (repeat first | assumption | rfl | refine aG_n ?_ rfl rfl))
theorem c_X11_wouldHaveSaid {h d n w : Nat} {t wv : Nat → Nat} (hh : h < 4) (hd : d < 2) (hPr : Pr μ 72 t wv) (hN : PrN 72 wv) (hw : w ≤ 20) (h73 : μ.1 73 3 = nI w) (hk : ∀ j, j < 20 → μ.1 75 j = μ.1 100 j ∧ μ.1 76 j = μ.1 101 j ∧ μ.1 77 j = μ.1 102 j) (hof : ∀ j, j < w → isOf μ.1 j → μ.1 101 j = nI (wu μ.1 j) ∧ wu μ.1 j < 64) (hn : ∀ k, k < n → 2 * k + d < w) (kt : (∀ k, k < n → CW μ.1 72 t wv (rkF (okC μ.1 t wv d) (wC μ.1 t wv d) 64) (lvH μ.1 h) (2 * k + d)) → ∀ μ', off2 μ μ' → Q (some (.int 1)) μ') (kf : ¬ (∀ k, k < n → CW μ.1 72 t wv (rkF (okC μ.1 t wv d) (wC μ.1 t wv d) 64) (lvH μ.1 h) (2 * k + d)) → ∀ μ', off2 μ μ' → Q (some (.int 0)) μ') : WP X mX11_wouldHaveSaid 0 (lv_args 0 [.ref 0, .ref (55 + 4 * h), .int (nI d), .int (nI n)]) [] μ Q := by
  obtain ⟨r1, r2⟩ := rkF_p (okC μ.1 t wv d) (wC μ.1 t wv d) 64
  refine wp_aload_n (pc := 0) dX11_wouldHaveSaid_0 (by first | rfl | assumption | (repeat first | assumption | rfl | refine aG_n ?_ rfl rfl)) ?_
  refine wp_getR (pc := 1) dX11_wouldHaveSaid_1 fl_11_46 (by first | rfl | assumption | exact sh_house (by omega) | exact sh_wish (by omega) | exact sh_wor (by omega) | exact sh_bar (by omega) | exact sh_term (by omega) | exact sh_sheet (by omega) | exact sh_items (by omega) | exact sh_sums (by omega)) rfl ?_
  refine wp_aload_n (pc := 4) dX11_wouldHaveSaid_4 (by first | rfl | assumption | (repeat first | assumption | rfl | refine aG_n ?_ rfl rfl)) ?_
  refine wp_getR (pc := 5) dX11_wouldHaveSaid_5 fl_11_84 (by first | rfl | assumption | exact sh_house (by omega) | exact sh_wish (by omega) | exact sh_wor (by omega) | exact sh_bar (by omega) | exact sh_term (by omega) | exact sh_sheet (by omega) | exact sh_items (by omega) | exact sh_sums (by omega)) rfl ?_
  refine wp_iload_n (pc := 8) dX11_wouldHaveSaid_8 (by first | rfl | assumption | (repeat first | assumption | rfl | refine aG_n ?_ rfl rfl)) ?_
  refine wp_cV (pc := 9) dX11_wouldHaveSaid_9 lk_11_395 rfl (by decide) rfl (by first | rfl | assumption | exact sh_house (by omega) | exact sh_wish (by omega) | exact sh_wor (by omega) | exact sh_bar (by omega) | exact sh_term (by omega) | exact sh_sheet (by omega) | exact sh_items (by omega) | exact sh_sums (by omega)) rfl rfl ?_
  refine c_X3_rank hPr hN hd (fun μ1 o1 c29 c30 => aK_v ?_)
  refine wp_iconst (pc := 12) (v := 0) dX11_wouldHaveSaid_12 (by decide) ?_
  refine wp_istore (pc := 13) dX11_wouldHaveSaid_13 (by decide) ?_
  exact l_whs hh hd hPr hN hw h73 hk hof hn r1 r2 kt kf n 0 (by omega) (fun j hj => absurd hj (by omega)) _ o1 c29 c30 _ (by first | rfl | assumption | (repeat first | assumption | rfl | refine aG_n ?_ rfl rfl)) (by first | rfl | assumption | (repeat first | assumption | rfl | refine aG_n ?_ rfl rfl)) (by first | rfl | assumption | (repeat first | assumption | rfl | refine aG_n ?_ rfl rfl)) (by first | rfl | assumption | (repeat first | assumption | rfl | refine aG_n ?_ rfl rfl)) (by first | rfl | assumption | (repeat first | assumption | rfl | refine aG_n ?_ rfl rfl))
end GUESS

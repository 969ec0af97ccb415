/-! WHAT HOLDS BEHIND THE CONSTRUCTORS -/
set_option maxRecDepth 100000 in
set_option maxHeartbeats 4000000 in
theorem m0_0 : ((∀ t, t < 6 → μ0.1 87 t = nI 0) ∧ (∀ i, i < 4 → μ0.1 (55 + 4 * i) 0 = nI (tsF (μ0.1 87) i 6))) := by decide +kernel
set_option maxRecDepth 100000 in
set_option maxHeartbeats 4000000 in
theorem m0_1 : (∀ i, i < 4 → μ0.1 (55 + 4 * i) 1 = μ0.1 88 i ∧ (0 ≤ (μ0.1 88 i).toInt ∧ (μ0.1 88 i).toInt ≤ 9999)) := by decide +kernel
set_option maxRecDepth 100000 in
set_option maxHeartbeats 4000000 in
theorem m0_2 : (∀ i, i < 4 → (μ0.1 (55 + 4 * i) 2 = μ0.1 89 i ∧ (0 ≤ (μ0.1 89 i).toInt ∧ (μ0.1 89 i).toInt ≤ 999)) ∧ (μ0.1 (55 + 4 * i) 3 = μ0.1 90 i ∧ (0 ≤ (μ0.1 90 i).toInt ∧ (μ0.1 90 i).toInt ≤ 999)) ∧ (μ0.1 (55 + 4 * i) 4 = μ0.1 91 i ∧ (0 ≤ (μ0.1 91 i).toInt ∧ (μ0.1 91 i).toInt ≤ 99))) := by decide +kernel
set_option maxRecDepth 100000 in
set_option maxHeartbeats 4000000 in
theorem m0_3 : (∀ i, i < 4 → μ0.1 (56 + 4 * i) 0 = nI 0 ∧ μ0.1 92 i = nI 0 ∧ ∀ s, s < 64 → μ0.1 (57 + 4 * i) s = 0 ∧ μ0.1 (58 + 4 * i) s = 0) := by decide +kernel
set_option maxRecDepth 100000 in
set_option maxHeartbeats 4000000 in
theorem m0_4 : (μ0.1 2 1 = nI 0 ∧ μ0.1 86 10 = nI 0 ∧ ∀ j, j < 90 → μ0.1 3 j = μ0.1 96 j) := by decide +kernel
set_option maxRecDepth 100000 in
set_option maxHeartbeats 4000000 in
theorem m0_5 : (μ0.1 73 0 = 0 ∧ μ0.1 86 15 = 0 ∧ μ0.1 73 3 = 0 ∧ μ0.1 86 19 = 0 ∧ ∀ j, j < 20 → μ0.1 75 j = μ0.1 100 j ∧ μ0.1 76 j = μ0.1 101 j ∧ μ0.1 77 j = μ0.1 102 j) := by decide +kernel
set_option maxRecDepth 100000 in
set_option maxHeartbeats 4000000 in
theorem m0_6 : (μ0.1 31 2 = nI 0 ∧ μ0.1 86 37 = nI 0 ∧ (∀ i, i < 16 → μ0.1 (36 + i) 6 = -1) ∧ ∀ e, e < 10 → μ0.1 34 e = -1 ∧ μ0.1 118 e = -4) := by decide +kernel
set_option maxRecDepth 100000 in
set_option maxHeartbeats 4000000 in
theorem m0_7 : ((∀ i, i < 8 → μ0.1 53 (8 + i) = μ0.1 123 i ∧ (0 ≤ (μ0.1 123 i).toInt ∧ (μ0.1 123 i).toInt ≤ 999)) ∧ ∀ n, n < 8 → 0 < n → μ0.1 53 n = sm2 (μ0.1 53 (2 * n)) (μ0.1 53 (2 * n + 1))) := by decide +kernel
set_option maxRecDepth 100000 in
set_option maxHeartbeats 4000000 in
theorem m0_8 : (∀ s, s < 4 → μ0.1 (78 + 2 * s) 1 = -1 ∧ μ0.1 124 s = -1 ∧ ∀ j, j < 12 → μ0.1 (79 + 2 * s) j = μ0.1 126 (12 * s + j)) := by decide +kernel
set_option maxRecDepth 100000 in
set_option maxHeartbeats 4000000 in
theorem m0_9 : (μ0.1 11 1 = nI 0 ∧ ∀ g, g < 16 → ∀ p, p < 64 → μ0.1 (13 + g) p = 0) := by decide +kernel
theorem gPt0 {w b o : Nat → Int32} (hw : ∀ q, q < 64 → w q = 0) (ho : ∀ q, q < 64 → o q = 0) {pool : Nat} (hp : pool < 64) : ∀ p, p < 64 → gPt w b o pool p = 0
  | 0, _ => ho _ hp
  | p + 1, h => by
    have ih := gPt0 (b := b) hw ho hp p (by omega)
    show (if _ then gMx _ _ else _) = _
    rw [ih, hw _ h, ho _ (Nat.xor_lt_two_pow (n := 6) hp h)]
    split
    · decide
    · rfl
theorem gRow0 {M : MM} (h : ∀ i, i < 4 → ∀ s, s < 64 → M (57 + 4 * i) s = 0 ∧ M (58 + 4 * i) s = 0) : ∀ (f i g : Nat), i + f ≤ 4 → 0 < g → g < 2 ^ f → ∀ p, p < 64 → gRow M i g f p = 0
  | 0, i, g, h1, h2, h3, p, hp => by
    have : g < 1 := h3
    omega
  | f + 1, i, g, h1, h2, h3, p, hp => by
    have h4 : g / 2 < 2 ^ f := by rw [Nat.pow_succ] at h3; omega
    unfold gRow
    rw [if_neg (show ¬ g = 0 by omega)]
    by_cases c1 : g % 2 = 1
    · rw [if_pos c1]
      by_cases c2 : g / 2 = 0
      · rw [if_pos c2]
        show (if _ then _ else _) = _
        rw [if_pos (h i (by omega) p hp).2]
        exact (h i (by omega) p hp).1
      · rw [if_neg c2]
        exact gPt0 (fun q hq => (h i (by omega) q hq).1) (fun q hq => gRow0 h f (i + 1) (g / 2) (by omega) (by omega) h4 q hq) hp p hp
    · rw [if_neg c1]
      exact gRow0 h f (i + 1) (g / 2) (by omega) (by omega) h4 p hp
theorem Inv0 : Inv μ0 := by
  obtain ⟨⟨a1, a2⟩, b, c, d, ⟨e1, e2, e3⟩, ⟨f1, f2, f3, f4, f5⟩, ⟨k1, k2, k3, k4⟩, ⟨l1, l2⟩, m, ⟨n1, n2⟩⟩ := (⟨m0_0, m0_1, m0_2, m0_3, m0_4, m0_5, m0_6, m0_7, m0_8, m0_9⟩ : _ ∧ _ ∧ _ ∧ _ ∧ _ ∧ _ ∧ _ ∧ _ ∧ _ ∧ _)
  refine ⟨⟨fun t ht => ⟨0, by decide, a1 t ht⟩, a2⟩, b, c, fun i hi => ?_, ⟨0, by decide, e1, e2, fun j hj => ⟨e3 j hj, fun h => absurd h (Nat.not_lt_zero _)⟩⟩, ?_, ⟨⟨0, by decide, k1, k2, fun i hi => absurd hi (Nat.not_lt_zero _), fun i _ hi => k3 i hi⟩, fun e he => Or.inl (k4 e he)⟩, ⟨l1, fun n h0 h8 => l2 n h8 h0⟩, fun s hs => ?_, ⟨0, by decide, n1, fun g g0 g1 _ p hp => ?_⟩⟩
  · obtain ⟨d1, d2, d3⟩ := d i hi
    exact ⟨0, by decide, d1, d2, fun k hk => absurd hk (Nat.not_lt_zero _), fun s hs => d3 s hs⟩
  · refine ⟨f1.trans f2.symm, by rw [f2]; exact ⟨by decide, by decide⟩, f3.trans f4.symm, f5, 0, by decide, f4, fun _ => rfl, fun h => absurd f2 h⟩
  · obtain ⟨m1, m2, m3⟩ := m s hs
    exact ⟨m1.trans m2.symm, by rw [m2]; exact ⟨by decide, by decide⟩, fun h => absurd m2 h, m3⟩
  · rw [n2 g g1 p hp, gRow0 (fun i hi s hs => (d i hi).2.2 s hs) 4 0 g (by decide) g0 g1 p hp]

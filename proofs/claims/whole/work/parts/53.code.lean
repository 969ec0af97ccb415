/-! codes of ways to part a set -/
def dgt (T m c : Nat) : Nat → Nat := fun t => c / m ^ cn T t % m
def cdF (β : Nat → Nat) (T m : Nat) : Nat → Nat → Nat
  | 0, _ => 0
  | f + 1, t => if T.testBit t = true then β t + m * cdF β T m f (t + 1) else cdF β T m f (t + 1)
theorem cdF_y {β : Nat → Nat} {T m f t : Nat} (h : T.testBit t = true) : cdF β T m (f + 1) t = β t + m * cdF β T m f (t + 1) := if_pos h
theorem cdF_n {β : Nat → Nat} {T m f t : Nat} (h : ¬ T.testBit t = true) : cdF β T m (f + 1) t = cdF β T m f (t + 1) := if_neg h
theorem cdF_lt {β : Nat → Nat} {T m : Nat} (hm : 0 < m) (hβ : ∀ t, t < 6 → T.testBit t = true → β t < m) : ∀ f t, t + f = 6 → cdF β T m f t * m ^ cn T t < m ^ cn T 6
  | 0, t, h => by
    show 0 * _ < _
    rw [Nat.zero_mul]; exact Nat.pow_pos hm
  | f + 1, t, h => by
    have ih := cdF_lt hm hβ f (t + 1) (by omega)
    by_cases hb : T.testBit t = true
    · rw [cdF_y hb]
      rw [cn_y hb, Nat.pow_succ] at ih
      have h1 := hβ t (by omega) hb
      have hpos : 0 < m ^ cn T t := Nat.pow_pos hm
      have hle : cn T t + 1 ≤ cn T 6 := by rw [← cn_y hb]; exact cn_mono T _ _ (by omega)
      -- everything is a multiple of m ^ (cn T t + 1)
      obtain ⟨e, he⟩ : ∃ e, cn T 6 = cn T t + 1 + e := ⟨cn T 6 - (cn T t + 1), by omega⟩
      rw [he, Nat.pow_add, Nat.pow_succ] at ih ⊢
      have ih2 : cdF β T m f (t + 1) < m ^ e := by
        rw [Nat.mul_comm] at ih
        exact Nat.lt_of_mul_lt_mul_left ih
      have : β t + m * cdF β T m f (t + 1) < m * m ^ e := by
        have : m * (cdF β T m f (t + 1) + 1) ≤ m * m ^ e := Nat.mul_le_mul_left m ih2
        rw [Nat.mul_add] at this
        omega
      rw [Nat.mul_comm (β t + m * cdF β T m f (t + 1)), Nat.mul_assoc]
      exact Nat.mul_lt_mul_of_pos_left this hpos
    · rw [cdF_n hb]
      rw [cn_n hb] at ih
      exact ih
theorem cdF_div {β : Nat → Nat} {T m : Nat} (hm : 0 < m) (hβ : ∀ t, t < 6 → T.testBit t = true → β t < m) : ∀ s, s ≤ 6 → cdF β T m 6 0 / m ^ cn T s = cdF β T m (6 - s) s
  | 0, _ => by rw [show cn T 0 = 0 from rfl, Nat.pow_zero, Nat.div_one]
  | s + 1, h => by
    have ih := cdF_div hm hβ s (by omega)
    rw [show 6 - s = (6 - (s + 1)) + 1 by omega] at ih
    by_cases hb : T.testBit s = true
    · rw [cdF_y hb] at ih
      rw [cn_y hb, Nat.pow_succ, ← Nat.div_div_eq_div_mul, ih, Nat.add_mul_div_left _ _ hm, Nat.div_eq_of_lt (hβ s (by omega) hb), Nat.zero_add]
    · rw [cdF_n hb] at ih
      rw [cn_n hb]; exact ih
theorem cd_ex {β : Nat → Nat} {T m : Nat} (hm : 0 < m) (hβ : ∀ t, t < 6 → T.testBit t = true → β t < m) : ∃ c, c < m ^ cn T 6 ∧ ∀ t, t < 6 → T.testBit t = true → dgt T m c t = β t := by
  refine ⟨cdF β T m 6 0, ?_, fun t ht hb => ?_⟩
  · have := cdF_lt hm hβ 6 0 (by omega)
    rwa [show cn T 0 = 0 from rfl, Nat.pow_zero, Nat.mul_one] at this
  · unfold dgt
    rw [cdF_div hm hβ t (by omega), show 6 - t = (6 - (t + 1)) + 1 by omega, cdF_y hb, Nat.add_mul_mod_self_left]
    exact Nat.mod_eq_of_lt (hβ t ht hb)
def hx (g k : Nat) : Nat := if g.testBit 0 = true ∧ cn g 0 = k then 0 else if g.testBit 1 = true ∧ cn g 1 = k then 1 else if g.testBit 2 = true ∧ cn g 2 = k then 2 else 3
theorem hx_1 : ∀ g, g < 16 → ∀ k, k < cn g 4 → hx g k < 4 ∧ g.testBit (hx g k) = true ∧ cn g (hx g k) = k := by decide +kernel
theorem hx_2 : ∀ g, g < 16 → ∀ h, h < 4 → g.testBit h = true → hx g (cn g h) = h ∧ cn g h < cn g 4 := by decide +kernel
theorem cn_4 : ∀ g, g < 16 → 0 < g → 0 < cn g 4 := by decide +kernel
def sH (M : MM) (S : Nat → Nat) (g : Nat) : Nat → Int32
  | 0 => 0
  | h + 1 => if g.testBit h = true then sH M S g h + M (57 + 4 * h) (S (cn g h)) else sH M S g h
def fH (M : MM) (S : Nat → Nat) (g : Nat) : Nat → Prop
  | 0 => True
  | h + 1 => fH M S g h ∧ (g.testBit h = true → M (58 + 4 * h) (S (cn g h)) = 0)
theorem sH_G (M : MM) (S S' : Nat → Nat) (g : Nat) (hg : g < 16) (he : ∀ h, h < 4 → g.testBit h = true → S' h = S (cn g h)) : sH M S g 4 = sG M S' 4 0 g ∧ (fH M S g 4 ↔ fG M S' 4 0 g) := by
  have b0 : g.testBit 0 = decide (g % 2 = 1) := Nat.testBit_zero g
  have b1 : g.testBit 1 = decide (g / 2 % 2 = 1) := by rw [Nat.testBit_succ, Nat.testBit_zero]
  have b2 : g.testBit 2 = decide (g / 2 / 2 % 2 = 1) := by rw [Nat.testBit_succ, Nat.testBit_succ, Nat.testBit_zero]
  have b3 : g.testBit 3 = decide (g / 2 / 2 / 2 % 2 = 1) := by rw [Nat.testBit_succ, Nat.testBit_succ, Nat.testBit_succ, Nat.testBit_zero]
  have h0 := he 0 (by decide)
  have h1 := he 1 (by decide)
  have h2 := he 2 (by decide)
  have h3 := he 3 (by decide)
  constructor
  · simp only [sH, sG]
    by_cases c0 : g % 2 = 1 <;> by_cases c1 : g / 2 % 2 = 1 <;> by_cases c2 : g / 2 / 2 % 2 = 1 <;> by_cases c3 : g / 2 / 2 / 2 % 2 = 1 <;> simp_all [Int32.add_assoc]
  · simp only [fH, fG]
    by_cases c0 : g % 2 = 1 <;> by_cases c1 : g / 2 % 2 = 1 <;> by_cases c2 : g / 2 / 2 % 2 = 1 <;> by_cases c3 : g / 2 / 2 / 2 % 2 = 1 <;> simp_all [and_assoc]
/-- the greatest sum over all codes is the table's -/
theorem mx_all {M : MM} {g T : Nat} (hB : wB M) (hg0 : 0 < g) (hg : g < 16) (hT : T < 64) : (∀ c, c < cn g 4 ^ cn T 6 → fH M (fun j => sb T (dgt T (cn g 4) c) j 6) g 4 → ¬ gRow M 0 g 4 T = nov ∧ (sH M (fun j => sb T (dgt T (cn g 4) c) j 6) g 4).toInt ≤ (gRow M 0 g 4 T).toInt) ∧ (¬ gRow M 0 g 4 T = nov → ∃ c, c < cn g 4 ^ cn T 6 ∧ fH M (fun j => sb T (dgt T (cn g 4) c) j 6) g 4 ∧ sH M (fun j => sb T (dgt T (cn g 4) c) j 6) g 4 = gRow M 0 g 4 T) := by
  have hm := cn_4 g hg hg0
  have D := dpT hB 4 0 g (by omega) hg0 (by omega) T hT
  constructor
  · intro c hc hf
    have hd : ∀ t, dgt T (cn g 4) c t < cn g 4 := fun t => Nat.mod_lt _ hm
    have he : ∀ h, h < 4 → g.testBit h = true → sb T (fun t => hx g (dgt T (cn g 4) c t)) h 6 = sb T (dgt T (cn g 4) c) (cn g h) 6 := fun h hh hb => sb_uq (sb_64 _ _ _) (fun t ht => by
      rw [sb_bit T (dgt T (cn g 4) c) (cn g h) 6 t ht]
      have e : hx g (dgt T (cn g 4) c t) = h ↔ dgt T (cn g 4) c t = cn g h := ⟨fun z => by rw [← z]; exact ((hx_1 g hg _ (hd t)).2.2).symm, fun z => by rw [z]; exact (hx_2 g hg h hh hb).1⟩
      simp only [e])
    obtain ⟨e1, e2⟩ := sH_G M (fun j => sb T (dgt T (cn g 4) c) j 6) (fun h => sb T (fun t => hx g (dgt T (cn g 4) c t)) h 6) g hg he
    rw [e1]
    refine D.1 _ (fun t ht hb => ⟨hx g (dgt T (cn g 4) c t), (hx_1 g hg _ (hd t)).1, (Nat.zero_add _).symm, (hx_1 g hg _ (hd t)).2.1⟩) (e2.mp hf)
  · intro hn
    obtain ⟨α, a1, a2, a3⟩ := D.2 hn
    have ha : ∀ t, t < 6 → T.testBit t = true → α t < 4 ∧ g.testBit (α t) = true := fun t ht hb => by
      obtain ⟨j, h1, h2, h3⟩ := a1 t ht hb
      rw [Nat.zero_add] at h2
      rw [h2]; exact ⟨h1, h3⟩
    obtain ⟨c, hc, hcd⟩ := cd_ex (β := fun t => cn g (α t)) (T := T) hm (fun t ht hb => (hx_2 g hg _ (ha t ht hb).1 (ha t ht hb).2).2)
    have he : ∀ h, h < 4 → g.testBit h = true → sb T α h 6 = sb T (dgt T (cn g 4) c) (cn g h) 6 := fun h hh hb => sb_uq (sb_64 _ _ _) (fun t ht => by
      rw [sb_bit T (dgt T (cn g 4) c) (cn g h) 6 t ht]
      by_cases q : T.testBit t = true
      · have e : α t = h ↔ dgt T (cn g 4) c t = cn g h := by
          rw [hcd t ht q]
          constructor
          · intro z; rw [z]
          · intro z
            have h1 := (hx_2 g hg _ (ha t ht q).1 (ha t ht q).2).1
            have h2 := (hx_2 g hg h hh hb).1
            rw [← h1, ← h2, z]
        simp only [e]
      · rw [decide_eq_false (fun z => q z.1), decide_eq_false (fun z => q z.1)])
    obtain ⟨e1, e2⟩ := sH_G M (fun j => sb T (dgt T (cn g 4) c) j 6) (fun h => sb T α h 6) g hg he
    exact ⟨c, hc, e2.mpr a2, e1.trans a3⟩

/-! VALUES: the table's rows are the greatest sums over all ways to part a set -/
theorem iadd {a b : Int32} (h1 : -2147483648 ≤ a.toInt + b.toInt) (h2 : a.toInt + b.toInt ≤ 2147483647) : (a + b).toInt = a.toInt + b.toInt := by
  rw [Int32.toInt_add]
  exact Int.bmod_eq_of_le (by omega) (by omega)
def sb (T : Nat) (α : Nat → Nat) (h : Nat) : Nat → Nat
  | 0 => 0
  | t + 1 => sb T α h t + (if T.testBit t = true ∧ α t = h then 2 ^ t else 0)
theorem sb_lt (T : Nat) (α : Nat → Nat) (h : Nat) : ∀ t, sb T α h t < 2 ^ t
  | 0 => by simp [sb]
  | t + 1 => by
    have := sb_lt T α h t
    have h2 : 2 ^ (t + 1) = 2 * 2 ^ t := by rw [Nat.pow_succ]; omega
    unfold sb
    split <;> omega
theorem sb_bit (T : Nat) (α : Nat → Nat) (h : Nat) : ∀ n t, t < n → (sb T α h n).testBit t = decide (T.testBit t = true ∧ α t = h)
  | 0, _, q => absurd q (Nat.not_lt_zero _)
  | n + 1, t, q => by
    have hl := sb_lt T α h n
    unfold sb
    by_cases e : t = n
    · subst e
      split
      · rw [Nat.add_comm, Nat.testBit_two_pow_add_eq, Nat.testBit_lt_two_pow hl]; simp [*]
      · rename_i z
        rw [Nat.add_zero, Nat.testBit_lt_two_pow hl, decide_eq_false z]
    · have := sb_bit T α h n t (by omega)
      split
      · rw [Nat.add_comm, Nat.testBit_two_pow_add_gt (by omega)]; exact this
      · rw [Nat.add_zero]; exact this
theorem sb_uq {T h x : Nat} {α : Nat → Nat} (hx : x < 64) (hb : ∀ t, t < 6 → x.testBit t = decide (T.testBit t = true ∧ α t = h)) : sb T α h 6 = x := by
  apply Nat.eq_of_testBit_eq
  intro t
  by_cases ht : t < 6
  · rw [hb t ht, sb_bit T α h 6 t ht]
  · rw [bit_hi hx (by omega), bit_hi (sb_lt T α h 6) (by omega)]
theorem sb_64 (T : Nat) (α : Nat → Nat) (h : Nat) : sb T α h 6 < 64 := sb_lt T α h 6
theorem sb_sub (T : Nat) (α : Nat → Nat) (h : Nat) : sb T α h 6 &&& T = sb T α h 6 := by
  apply Nat.eq_of_testBit_eq
  intro t
  rw [Nat.testBit_and]
  by_cases ht : t < 6
  · rw [sb_bit T α h 6 t ht]
    by_cases c : T.testBit t = true ∧ α t = h
    · rw [decide_eq_true c, c.1]; rfl
    · rw [decide_eq_false c]; rfl
  · rw [bit_hi (sb_lt T α h 6) (by omega)]; rfl
/-- what is left when one has taken its part -/
theorem sb_rest {T : Nat} {α : Nat → Nat} {i h : Nat} (hih : h ≠ i) : sb (T ^^^ sb T α i 6) α h 6 = sb T α h 6 := by
  refine sb_uq (sb_64 _ _ _) (fun t ht => ?_)
  rw [sb_bit T α h 6 t ht, Nat.testBit_xor, sb_bit T α i 6 t ht]
  by_cases c : T.testBit t = true ∧ α t = h
  · have n : ¬ (T.testBit t = true ∧ α t = i) := fun z => hih (c.2.symm.trans z.2)
    rw [decide_eq_true c, decide_eq_false n, c.1]
    symm; exact decide_eq_true ⟨rfl, c.2⟩
  · rw [decide_eq_false c]
    symm
    refine decide_eq_false (fun z => c ⟨?_, z.2⟩)
    have n : ¬ (T.testBit t = true ∧ α t = i) := fun y => hih (z.2.symm.trans y.2)
    have := z.1
    rw [decide_eq_false n, Bool.xor_false] at this
    exact this
def sG (M : MM) (S : Nat → Nat) : Nat → Nat → Nat → Int32
  | 0, _, _ => 0
  | f + 1, i, g => (if g % 2 = 1 then M (57 + 4 * i) (S i) else 0) + sG M S f (i + 1) (g / 2)
def fG (M : MM) (S : Nat → Nat) : Nat → Nat → Nat → Prop
  | 0, _, _ => True
  | f + 1, i, g => (g % 2 = 1 → M (58 + 4 * i) (S i) = 0) ∧ fG M S f (i + 1) (g / 2)
def rgA (α : Nat → Nat) (pool f i g : Nat) : Prop := ∀ t, t < 6 → pool.testBit t = true → ∃ j, j < f ∧ α t = i + j ∧ g.testBit j = true
/-- bounds of WISHES -/
def wB (M : MM) : Prop := ∀ i, i < 4 → (∀ s, s < 64 → -1188 ≤ (M (57 + 4 * i) s).toInt ∧ (M (57 + 4 * i) s).toInt ≤ 1188) ∧ M (57 + 4 * i) 0 = 0 ∧ M (58 + 4 * i) 0 = 0
theorem gRow_e (M : MM) (i g f : Nat) : gRow M i g (f + 1) = (if g = 0 then fun _ => nov else if g % 2 = 1 then (if g / 2 = 0 then fun p => (if M (58 + 4 * i) p = 0 then M (57 + 4 * i) p else nov) else fun p => gPt (M (57 + 4 * i)) (M (58 + 4 * i)) (gRow M (i + 1) (g / 2) f) p p) else gRow M (i + 1) (g / 2) f) := rfl
theorem sG_e (M : MM) (S : Nat → Nat) (f i g : Nat) : sG M S (f + 1) i g = (if g % 2 = 1 then M (57 + 4 * i) (S i) else 0) + sG M S f (i + 1) (g / 2) := rfl
section DP
variable {M : MM}
theorem sG_0 (S : Nat → Nat) : ∀ f i, sG M S f i 0 = 0
  | 0, _ => rfl
  | f + 1, i => by
    show (if 0 % 2 = 1 then M (57 + 4 * i) (S i) else 0) + sG M S f (i + 1) (0 / 2) = 0
    rw [if_neg (by decide), show 0 / 2 = 0 from rfl, sG_0 S f (i + 1)]; rfl
theorem fG_0 (S : Nat → Nat) : ∀ f i, fG M S f i 0
  | 0, _ => trivial
  | f + 1, i => ⟨fun z => absurd z (by decide), fG_0 S f (i + 1)⟩
theorem sfG_c {S S' : Nat → Nat} : ∀ f i g, (∀ h, i ≤ h → h < i + f → S' h = S h) → sG M S' f i g = sG M S f i g ∧ (fG M S' f i g ↔ fG M S f i g)
  | 0, _, _, _ => ⟨rfl, Iff.rfl⟩
  | f + 1, i, g, h => by
    obtain ⟨h1, h2⟩ := sfG_c (S := S) (S' := S') f (i + 1) (g / 2) (fun x h1 h2 => h x (by omega) (by omega))
    constructor
    · unfold sG; rw [h1, h i (by omega) (by omega)]
    · unfold fG; rw [h2, h i (by omega) (by omega)]
theorem sG_b (hB : wB M) {S : Nat → Nat} (hS : ∀ h, S h < 64) : ∀ (f i g : Nat), i + f ≤ 4 → -(1188 * (f : Int)) ≤ (sG M S f i g).toInt ∧ (sG M S f i g).toInt ≤ 1188 * (f : Int)
  | 0, _, _, _ => by show _ ≤ (0 : Int32).toInt ∧ (0 : Int32).toInt ≤ _; rw [z_0]; omega
  | f + 1, i, g, h => by
    have ih := sG_b hB hS f (i + 1) (g / 2) (by omega)
    have hb := ((hB i (by omega)).1 (S i) (hS i))
    unfold sG
    have z0 := z_0
    by_cases c : g % 2 = 1
    · rw [if_pos c, iadd (by omega) (by omega)]; omega
    · rw [if_neg c, iadd (by omega) (by omega)]; omega
theorem gPt_ge {w b o : Nat → Int32} {pool q : Nat} (h0 : 0 < q) (hc : q &&& pool = q ∧ ¬ o (pool ^^^ q) = nov ∧ b q = 0) : ∀ p, q ≤ p → (o (pool ^^^ q) + w q).toInt ≤ (gPt w b o pool p).toInt
  | 0, h => absurd h (by omega)
  | p + 1, h => by
    unfold gPt
    by_cases e : q = p + 1
    · subst e
      rw [if_pos hc, gMx_i]; omega
    · have ih := gPt_ge (w := w) h0 hc p (by omega)
      split
      · rw [gMx_i]; omega
      · exact ih
theorem gPt_ex {w b o : Nat → Int32} {pool : Nat} : ∀ p, gPt w b o pool p = o pool ∨ ∃ q, 0 < q ∧ q ≤ p ∧ (q &&& pool = q ∧ ¬ o (pool ^^^ q) = nov ∧ b q = 0) ∧ gPt w b o pool p = o (pool ^^^ q) + w q
  | 0 => Or.inl rfl
  | p + 1 => by
    have ih := gPt_ex (w := w) (b := b) (o := o) (pool := pool) p
    unfold gPt
    split
    · rename_i hc
      unfold gMx
      split
      · exact Or.inr ⟨p + 1, by omega, Nat.le_refl _, hc, rfl⟩
      · rcases ih with z | ⟨q, h1, h2, h3, h4⟩
        · exact Or.inl z
        · exact Or.inr ⟨q, h1, by omega, h3, h4⟩
    · rcases ih with z | ⟨q, h1, h2, h3, h4⟩
      · exact Or.inl z
      · exact Or.inr ⟨q, h1, by omega, h3, h4⟩
theorem nov_i : nov.toInt = -1000000 := by decide
theorem nov_ne {x : Int32} (h : -1000000 < x.toInt) : ¬ x = nov := fun z => by rw [z, nov_i] at h; omega
theorem sub_le {q pool : Nat} (h : q &&& pool = q) : q ≤ pool := by rw [← h]; exact Nat.and_le_right
theorem sub_b {q pool t : Nat} (h : q &&& pool = q) (hb : q.testBit t = true) : pool.testBit t = true := by
  rw [← h, Nat.testBit_and, Bool.and_eq_true] at hb; exact hb.2
theorem dpT (hB : wB M) : ∀ f i g, i + f ≤ 4 → 0 < g → g < 2 ^ f → ∀ pool, pool < 64 → (∀ α, rgA α pool f i g → fG M (fun h => sb pool α h 6) f i g → ¬ gRow M i g f pool = nov ∧ (sG M (fun h => sb pool α h 6) f i g).toInt ≤ (gRow M i g f pool).toInt) ∧ (¬ gRow M i g f pool = nov → ∃ α, rgA α pool f i g ∧ fG M (fun h => sb pool α h 6) f i g ∧ sG M (fun h => sb pool α h 6) f i g = gRow M i g f pool)
  | 0, i, g, _, h0, h1, _, _ => absurd h1 (by simp; omega)
  | f + 1, i, g, hi, h0, h1, pool, hp => by
    have hpow : 2 ^ (f + 1) = 2 * 2 ^ f := by rw [Nat.pow_succ]; omega
    have hBi := hB i (by omega)
    have z0 := z_0
    have nvi := nov_i
    have sh : ∀ j, g.testBit (j + 1) = (g / 2).testBit j := fun j => Nat.testBit_succ g j
    by_cases c : g % 2 = 1
    · have hb0 : g.testBit 0 = true := by rw [Nat.testBit_zero]; exact decide_eq_true c
      by_cases c2 : g / 2 = 0
      · have g1 : g = 1 := by omega
        have eR : gRow M i g (f + 1) pool = (if M (58 + 4 * i) pool = 0 then M (57 + 4 * i) pool else nov) := by
          rw [gRow_e, if_neg (by omega), if_pos c, if_pos c2]
        have hbd := hBi.1 pool hp
        have full : ∀ α, (∀ t, t < 6 → pool.testBit t = true → α t = i) → sb pool α i 6 = pool := fun α ha => sb_uq hp (fun t ht => by
          by_cases q : pool.testBit t = true
          · rw [q]; symm; exact decide_eq_true ⟨rfl, ha t ht q⟩
          · rw [Bool.not_eq_true] at q; rw [q]; symm; exact decide_eq_false (fun z => by cases z.1))
        have esum : ∀ S : Nat → Nat, sG M S (f + 1) i g = M (57 + 4 * i) (S i) := fun S => by
          rw [sG_e, if_pos c, c2, sG_0, Int32.add_zero]
        constructor
        · intro α hr hf
          have ha : ∀ t, t < 6 → pool.testBit t = true → α t = i := fun t ht hb => by
            obtain ⟨j, hj, e, hjb⟩ := hr t ht hb
            rw [g1] at hjb
            have : j = 0 := by
              by_cases q : j = 0
              · exact q
              · rw [Nat.testBit_one_eq_true_iff_self_eq_zero] at hjb; exact hjb
            omega
          have e1 := full α ha
          have hf0 := hf.1 c
          dsimp only at hf0
          rw [e1] at hf0
          rw [eR, if_pos hf0, esum]
          try dsimp only
          rw [e1]
          exact ⟨nov_ne (by omega), Int.le_refl _⟩
        · intro hn
          rw [eR] at hn ⊢
          by_cases q : M (58 + 4 * i) pool = 0
          · rw [if_pos q]
            refine ⟨fun _ => i, fun t ht hb => ⟨0, by omega, rfl, hb0⟩, ⟨fun _ => ?_, by rw [c2]; exact fG_0 _ _ _⟩, ?_⟩
            · dsimp only; rw [full (fun _ => i) (fun _ _ _ => rfl)]; exact q
            · rw [esum]; try dsimp only
              rw [full (fun _ => i) (fun _ _ _ => rfl)]
          · rw [if_neg q] at hn; exact absurd rfl hn
      · have eR : gRow M i g (f + 1) pool = gPt (M (57 + 4 * i)) (M (58 + 4 * i)) (gRow M (i + 1) (g / 2) f) pool pool := by
          rw [gRow_e, if_neg (by omega), if_pos c, if_neg c2]
        have IH := dpT hB f (i + 1) (g / 2) (by omega) (by omega) (by omega)
        have oB : ∀ s, s < 64 → ¬ gRow M (i + 1) (g / 2) f s = nov → -3564 ≤ (gRow M (i + 1) (g / 2) f s).toInt ∧ (gRow M (i + 1) (g / 2) f s).toInt ≤ 3564 := fun s hs hn => by
          obtain ⟨α, -, -, e⟩ := (IH s hs).2 hn
          rw [← e]
          have := sG_b hB (S := fun h => sb s α h 6) (fun h => sb_64 s α h) f (i + 1) (g / 2) (by omega)
          omega
        have esum : ∀ S : Nat → Nat, sG M S (f + 1) i g = M (57 + 4 * i) (S i) + sG M S f (i + 1) (g / 2) := fun S => by
          rw [sG_e, if_pos c]
        constructor
        · intro α hr hf
          have hs6 := sb_64 pool α i
          have hx := x64 hp hs6
          have ec := sfG_c (M := M) (S := fun h => sb pool α h 6) (S' := fun h => sb (pool ^^^ sb pool α i 6) α h 6) f (i + 1) (g / 2) (fun h h1 h2 => sb_rest (by omega))
          have hr' : rgA α (pool ^^^ sb pool α i 6) f (i + 1) (g / 2) := fun t ht hb => by
            rw [Nat.testBit_xor, sb_bit pool α i 6 t ht] at hb
            have hpb : pool.testBit t = true ∧ ¬ α t = i := by
              by_cases q : pool.testBit t = true
              · refine ⟨q, fun z => ?_⟩
                rw [q, decide_eq_true ⟨rfl, z⟩] at hb; cases hb
              · rw [Bool.not_eq_true] at q
                rw [q, decide_eq_false (fun z => by cases z.1)] at hb; cases hb
            obtain ⟨j, hj, e, hjb⟩ := hr t ht hpb.1
            obtain ⟨j', rfl⟩ : ∃ j', j = j' + 1 := ⟨j - 1, by omega⟩
            exact ⟨j', by omega, by omega, by rw [← sh]; exact hjb⟩
          obtain ⟨n1, n2⟩ := (IH _ hx).1 α hr' (ec.2.mpr hf.2)
          rw [ec.1] at n2
          obtain ⟨o1, o2⟩ := oB _ hx n1
          have hw := hBi.1 _ hs6
          have sb2 := sG_b hB (S := fun h => sb pool α h 6) (fun h => sb_64 pool α h) f (i + 1) (g / 2) (by omega)
          have hge : (gRow M (i + 1) (g / 2) f (pool ^^^ sb pool α i 6) + M (57 + 4 * i) (sb pool α i 6)).toInt ≤ (gPt (M (57 + 4 * i)) (M (58 + 4 * i)) (gRow M (i + 1) (g / 2) f) pool pool).toInt := by
            by_cases q : sb pool α i 6 = 0
            · rw [q, Nat.xor_zero, hBi.2.1, Int32.add_zero]; exact gPt_base pool
            · exact gPt_ge (Nat.pos_of_ne_zero q) ⟨sb_sub pool α i, n1, hf.1 c⟩ pool (sub_le (sb_sub pool α i))
          rw [iadd (by omega) (by omega)] at hge
          rw [eR, esum]
          refine ⟨nov_ne (by omega), ?_⟩
          try dsimp only
          rw [iadd (by omega) (by omega)]
          omega
        · intro hn
          rw [eR] at hn ⊢
          rcases gPt_ex (w := M (57 + 4 * i)) (b := M (58 + 4 * i)) (o := gRow M (i + 1) (g / 2) f) (pool := pool) pool with e | ⟨q, q0, qle, ⟨hs, hq2, hq3⟩, e⟩
          · rw [e] at hn ⊢
            obtain ⟨α, a1, a2, a3⟩ := (IH pool hp).2 hn
            have ez : sb pool α i 6 = 0 := sb_uq (by decide) (fun t ht => by
              rw [Nat.zero_testBit]; symm
              refine decide_eq_false (fun z => ?_)
              obtain ⟨j, -, e2, -⟩ := a1 t ht z.1
              omega)
            refine ⟨α, fun t ht hb => ?_, ⟨fun _ => ?_, a2⟩, ?_⟩
            · obtain ⟨j, h1, h2, h3⟩ := a1 t ht hb
              exact ⟨j + 1, by omega, by omega, by rw [sh]; exact h3⟩
            · dsimp only; rw [ez]; exact hBi.2.2
            · rw [esum]; try dsimp only
              rw [ez, hBi.2.1, a3]; exact Int32.zero_add _
          · rw [e]
            have hq6 : q < 64 := by omega
            obtain ⟨α', a1, a2, a3⟩ := (IH _ (x64 hp hq6)).2 hq2
            have bq : ∀ t, q.testBit t = true → pool.testBit t = true := fun t hb => sub_b hs hb
            have ei : sb pool (fun t => if q.testBit t = true then i else α' t) i 6 = q := sb_uq hq6 (fun t ht => by
              by_cases z : q.testBit t = true
              · rw [z]; symm; exact decide_eq_true ⟨bq t z, if_pos rfl⟩
              · rw [Bool.not_eq_true] at z
                rw [z]; symm
                refine decide_eq_false (fun y => ?_)
                have y2 := y.2
                rw [if_neg (by decide)] at y2
                obtain ⟨j, -, e2, -⟩ := a1 t ht (by rw [Nat.testBit_xor, y.1, z]; rfl)
                omega)
            have eh : ∀ h, i + 1 ≤ h → h < i + 1 + f → sb pool (fun t => if q.testBit t = true then i else α' t) h 6 = sb (pool ^^^ q) α' h 6 := fun h h1 h2 => sb_uq (sb_64 _ _ _) (fun t ht => by
              rw [sb_bit (pool ^^^ q) α' h 6 t ht, Nat.testBit_xor]
              by_cases z : q.testBit t = true
              · rw [z, bq t z]
                rw [decide_eq_false (fun y => by cases y.1), decide_eq_false (fun y => by have := y.2; rw [if_pos rfl] at this; omega)]
              · rw [Bool.not_eq_true] at z
                rw [z, Bool.xor_false]; simp)
            have ec := sfG_c (M := M) (S := fun h => sb (pool ^^^ q) α' h 6) (S' := fun h => sb pool (fun t => if q.testBit t = true then i else α' t) h 6) f (i + 1) (g / 2) (fun h h1 h2 => eh h h1 h2)
            refine ⟨fun t => if q.testBit t = true then i else α' t, fun t ht hb => ?_, ⟨fun _ => ?_, ec.2.mpr a2⟩, ?_⟩
            · by_cases z : q.testBit t = true
              · exact ⟨0, by omega, if_pos z, hb0⟩
              · have z' : q.testBit t = false := by rw [Bool.not_eq_true] at z; exact z
                obtain ⟨j, h1, h2, h3⟩ := a1 t ht (by rw [Nat.testBit_xor, hb, z']; rfl)
                exact ⟨j + 1, by omega, by show (if q.testBit t = true then i else α' t) = i + (j + 1); rw [if_neg z]; omega, by rw [sh]; exact h3⟩
            · dsimp only; rw [ei]; exact hq3
            · rw [esum]; try dsimp only
              rw [ei, ec.1, a3]; exact Int32.add_comm _ _
    · have eR : gRow M i g (f + 1) pool = gRow M (i + 1) (g / 2) f pool := by
        rw [gRow_e, if_neg (by omega), if_neg c]
      have IH := dpT hB f (i + 1) (g / 2) (by omega) (by omega) (by omega) pool hp
      have hb0 : ¬ g.testBit 0 = true := by rw [Nat.testBit_zero]; simp [c]
      have esum : ∀ S : Nat → Nat, sG M S (f + 1) i g = sG M S f (i + 1) (g / 2) := fun S => by
        rw [sG_e, if_neg c]; exact Int32.zero_add _
      rw [eR]
      constructor
      · intro α hr hf
        rw [esum]
        refine IH.1 α (fun t ht hb => ?_) hf.2
        obtain ⟨j, hj, e, hjb⟩ := hr t ht hb
        obtain ⟨j', rfl⟩ : ∃ j', j = j' + 1 := ⟨j - 1, by
          by_cases q : j = 0
          · rw [q] at hjb; exact absurd hjb hb0
          · omega⟩
        exact ⟨j', by omega, by omega, by rw [← sh]; exact hjb⟩
      · intro hn
        obtain ⟨α, a1, a2, a3⟩ := IH.2 hn
        refine ⟨α, fun t ht hb => ?_, ⟨fun z => absurd z c, a2⟩, by rw [esum]; exact a3⟩
        obtain ⟨j, h1, h2, h3⟩ := a1 t ht hb
        exact ⟨j + 1, by omega, by omega, by rw [sh]; exact h3⟩
end DP
/-! bounds out of the WISHES -/
theorem wF_b {M : MM} {i : Nat} {s : Int32} : ∀ (n : Nat), n ≤ 12 → (∀ k, k < n → inR (M 94 (12 * i + k)) (-99) 99) → -(99 * (n : Int)) ≤ (wF M i s n).toInt ∧ (wF M i s n).toInt ≤ 99 * (n : Int)
  | 0, _, _ => by show _ ≤ (0 : Int32).toInt ∧ (0 : Int32).toInt ≤ _; rw [z_0]; omega
  | n + 1, hn, h => by
    have ih := wF_b (s := s) n (by omega) (fun k hk => h k (by omega))
    have hk := h n (by omega)
    unfold inR at hk
    have z0 := z_0
    unfold wF
    split
    · rw [iadd (by omega) (by omega)]; omega
    · rw [iadd (by omega) (by omega)]; omega
theorem and_m1 : ∀ l, l < 64 → 0 < l → ¬ nI l &&& (nI 0 ^^^ (-1)) = 0 := by decide +kernel
theorem wF_e {M : MM} {i : Nat} : ∀ n, (∀ k, k < n → ∃ l, 0 < l ∧ l < 64 ∧ M 93 (12 * i + k) = nI l) → wF M i (nI 0) n = 0 ∧ bF M i (nI 0) n = false
  | 0, _ => ⟨rfl, rfl⟩
  | n + 1, h => by
    obtain ⟨i1, i2⟩ := wF_e n (fun k hk => h k (by omega))
    obtain ⟨l, l0, l6, e⟩ := h n (by omega)
    have := and_m1 l l6 l0
    constructor
    · unfold wF; rw [i1, e, if_neg this]; rfl
    · unfold bF; rw [i2, e, decide_eq_false this]; simp
theorem wB_of {M : MM} (hW : I_wish M) : wB M := by
  intro i hi
  obtain ⟨n, a1, a2, a3, a4, a5⟩ := hW i hi
  refine ⟨fun s hs => ?_, ?_, ?_⟩
  · rw [(a5 s hs).1]
    have := wF_b (M := M) (i := i) (s := nI s) n a1 (fun k hk => (a4 k hk).2.1)
    omega
  · rw [(a5 0 (by decide)).1]; exact (wF_e n (fun k hk => (a4 k hk).1)).1
  · rw [(a5 0 (by decide)).2, (wF_e n (fun k hk => (a4 k hk).1)).2]; rfl

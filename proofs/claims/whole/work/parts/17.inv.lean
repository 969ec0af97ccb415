/-! shapes of the cells that come in families -/
theorem sh_house {i : Nat} (hi : i < 4) : shp[55 + 4 * i]? = some (.inl (1, [(0, 0), (0, 0), (0, 0), (0, 0), (0, 0), (1, 56 + 4 * i)])) := by
  match i, hi with
  | 0, _ => rfl
  | 1, _ => rfl
  | 2, _ => rfl
  | 3, _ => rfl
theorem sh_wish {i : Nat} (hi : i < 4) : shp[56 + 4 * i]? = some (.inl (10, [(0, 0), (1, 57 + 4 * i), (1, 58 + 4 * i)])) := by
  match i, hi with
  | 0, _ => rfl
  | 1, _ => rfl
  | 2, _ => rfl
  | 3, _ => rfl
theorem sh_wor {i : Nat} (hi : i < 4) : shp[57 + 4 * i]? = some (.inr (.inl (0, 64))) := by
  match i, hi with
  | 0, _ => rfl
  | 1, _ => rfl
  | 2, _ => rfl
  | 3, _ => rfl
theorem sh_bar {i : Nat} (hi : i < 4) : shp[58 + 4 * i]? = some (.inr (.inl (1, 64))) := by
  match i, hi with
  | 0, _ => rfl
  | 1, _ => rfl
  | 2, _ => rfl
  | 3, _ => rfl
theorem sh_sheet {i : Nat} (hi : i < 4) : shp[78 + 2 * i]? = some (.inl (6, [(1, 79 + 2 * i), (0, 0), (0, 0)])) := by
  match i, hi with
  | 0, _ => rfl
  | 1, _ => rfl
  | 2, _ => rfl
  | 3, _ => rfl
theorem sh_items {i : Nat} (hi : i < 4) : shp[79 + 2 * i]? = some (.inr (.inl (0, 12))) := by
  match i, hi with
  | 0, _ => rfl
  | 1, _ => rfl
  | 2, _ => rfl
  | 3, _ => rfl
theorem sh_term {i : Nat} (hi : i < 16) : shp[36 + i]? = some (.inl (9, [(0, 0), (0, 0), (0, 0), (0, 0), (0, 0), (0, 0), (0, 0)])) := by
  match i, hi with
  | 0, _ => rfl
  | 1, _ => rfl
  | 2, _ => rfl
  | 3, _ => rfl
  | 4, _ => rfl
  | 5, _ => rfl
  | 6, _ => rfl
  | 7, _ => rfl
  | 8, _ => rfl
  | 9, _ => rfl
  | 10, _ => rfl
  | 11, _ => rfl
  | 12, _ => rfl
  | 13, _ => rfl
  | 14, _ => rfl
  | 15, _ => rfl
  | _ + 16, hi => omega
theorem sh_sums {i : Nat} (hi : i < 16) : shp[13 + i]? = some (.inr (.inl (0, 64))) := by
  match i, hi with
  | 0, _ => rfl
  | 1, _ => rfl
  | 2, _ => rfl
  | 3, _ => rfl
  | 4, _ => rfl
  | 5, _ => rfl
  | 6, _ => rfl
  | 7, _ => rfl
  | 8, _ => rfl
  | 9, _ => rfl
  | 10, _ => rfl
  | 11, _ => rfl
  | 12, _ => rfl
  | 13, _ => rfl
  | 14, _ => rfl
  | 15, _ => rfl
  | _ + 16, hi => omega
theorem el_house {i : Nat} (hi : i < 4) : ([55, 59, 63, 67] : List Nat)[(nI i).toNatClampNeg]? = some (55 + 4 * i) := by
  rw [nI_clamp (by omega)]
  match i, hi with
  | 0, _ => rfl
  | 1, _ => rfl
  | 2, _ => rfl
  | 3, _ => rfl
theorem el_sheet {i : Nat} (hi : i < 4) : ([78, 80, 82, 84] : List Nat)[(nI i).toNatClampNeg]? = some (78 + 2 * i) := by
  rw [nI_clamp (by omega)]
  match i, hi with
  | 0, _ => rfl
  | 1, _ => rfl
  | 2, _ => rfl
  | 3, _ => rfl
theorem el_term_b : ∀ i : Nat, i < 16 → ([36, 37, 38, 39, 40, 41, 42, 43, 44, 45, 46, 47, 48, 49, 50, 51] : List Nat)[i]? = some (36 + i) := by decide +kernel
theorem el_term {i : Nat} (hi : i < 16) : ([36, 37, 38, 39, 40, 41, 42, 43, 44, 45, 46, 47, 48, 49, 50, 51] : List Nat)[(nI i).toNatClampNeg]? = some (36 + i) := by
  rw [nI_clamp (by omega)]; exact el_term_b i hi
theorem el_sums_b : ∀ i : Nat, i < 16 → ([13, 14, 15, 16, 17, 18, 19, 20, 21, 22, 23, 24, 25, 26, 27, 28] : List Nat)[i]? = some (13 + i) := by decide +kernel
theorem el_sums {i : Nat} (hi : i < 16) : ([13, 14, 15, 16, 17, 18, 19, 20, 21, 22, 23, 24, 25, 26, 27, 28] : List Nat)[(nI i).toNatClampNeg]? = some (13 + i) := by
  rw [nI_clamp (by omega)]; exact el_sums_b i hi
theorem inR_of {v : Int32} {n : Nat} (h : inR v 0 n) : ∃ j : Nat, j ≤ n ∧ v = nI j := by
  obtain ⟨h1, h2⟩ := h
  have h3 : ¬ v < 0 := by rw [i_lt]; simpa using h1
  obtain ⟨j, hj, rfl⟩ := nI_of h3
  rw [nI_toInt hj] at h2
  exact ⟨j, by omega, rfl⟩
theorem inR_nI {j n : Nat} (h : j ≤ n) (hn : n < 2 ^ 31) : inR (nI j) 0 n := by
  unfold inR
  rw [nI_toInt (by omega)]
  omega
/-! WHAT HOLDS BETWEEN CLASS AND MODEL -/
def tsF (O : Nat → Int32) (h : Nat) : Nat → Nat
  | 0 => 0
  | t + 1 => tsF O h t + (if O t = nI h then 2 ^ t else 0)
abbrev MM : Type := Nat → Nat → Int32
def I_own (M : MM) : Prop := (∀ t, t < 6 → ∃ j, j < 4 ∧ M 87 t = nI j) ∧ ∀ i, i < 4 → M (55 + 4 * i) 0 = nI (tsF (M 87) i 6)
def I_coin (M : MM) : Prop := ∀ i, i < 4 → M (55 + 4 * i) 1 = M 88 i ∧ inR (M 88 i) 0 9999
def I_lev (M : MM) : Prop := ∀ i, i < 4 → (M (55 + 4 * i) 2 = M 89 i ∧ inR (M 89 i) 0 999) ∧ (M (55 + 4 * i) 3 = M 90 i ∧ inR (M 90 i) 0 999) ∧ (M (55 + 4 * i) 4 = M 91 i ∧ inR (M 91 i) 0 99)
def wF (M : MM) (i : Nat) (s : Int32) : Nat → Int32
  | 0 => 0
  | k + 1 => wF M i s k + (if M 93 (12 * i + k) &&& (s ^^^ (-1)) = 0 then M 94 (12 * i + k) else 0)
def bF (M : MM) (i : Nat) (s : Int32) : Nat → Bool
  | 0 => false
  | k + 1 => bF M i s k || (decide (M 95 (12 * i + k) ≠ 0) && decide (M 93 (12 * i + k) &&& (s ^^^ (-1)) = 0))
def I_wish (M : MM) : Prop := ∀ i, i < 4 → ∃ n, n ≤ 12 ∧ M (56 + 4 * i) 0 = nI n ∧ M 92 i = nI n ∧ (∀ k, k < n → (∃ l, 0 < l ∧ l < 64 ∧ M 93 (12 * i + k) = nI l) ∧ inR (M 94 (12 * i + k)) (-99) 99 ∧ (M 95 (12 * i + k) = 0 ∨ M 95 (12 * i + k) = 1)) ∧ ∀ s, s < 64 → M (57 + 4 * i) s = wF M i (nI s) n ∧ M (58 + 4 * i) s = (if bF M i (nI s) n = true then 1 else 0)
def I_tape (M : MM) : Prop := ∃ n, n ≤ 90 ∧ M 2 1 = nI n ∧ M 86 10 = nI n ∧ ∀ j, j < 90 → M 3 j = M 96 j ∧ (j < n → inR (M 96 j) 32 126)
def isOf (M : MM) (j : Nat) : Prop := M 100 j = 1 ∨ M 100 j = 2
def I_talk (M : MM) (R : Nat → Nat → Nat) : Prop := M 73 0 = M 86 15 ∧ inR (M 86 15) 0 4 ∧ M 73 3 = M 86 19 ∧ (∀ j, j < 20 → M 75 j = M 100 j ∧ M 76 j = M 101 j ∧ M 77 j = M 102 j) ∧
  ∃ w, w ≤ 20 ∧ M 86 19 = nI w ∧ (M 86 15 = 0 → w = 0) ∧
  (¬ M 86 15 = 0 → ∃ a b mo : Nat, (a < 4 ∧ b < 4 ∧ a ≠ b) ∧ (M 73 1 = nI a ∧ M 86 16 = nI a ∧ M 73 2 = nI b ∧ M 86 17 = nI b) ∧ (M 73 4 = nI mo ∧ M 86 18 = nI mo ∧ mo ≤ 20 ∧ w ≤ mo ∧ (M 86 15 = 1 → w < mo)) ∧
    (M 74 0 = M 86 23 ∧ M 74 1 = M 86 24 ∧ M 74 2 = M 86 25 ∧ M 74 3 = M 86 26) ∧ (R 74 4 = 56 + 4 * a ∧ R 74 5 = 56 + 4 * b) ∧
    (∃ ta tb : Nat, ta < 64 ∧ tb < 64 ∧ ta &&& tb = 0 ∧ M 86 23 = nI ta ∧ M 86 24 = nI tb) ∧ inR (M 86 25) 0 9999 ∧ inR (M 86 26) 0 9999 ∧
    (M 86 15 = 1 → M 86 23 = nI (tsF (M 87) a 6) ∧ M 86 24 = nI (tsF (M 87) b 6) ∧ M 86 25 = M 88 a ∧ M 86 26 = M 88 b) ∧
    ∀ j, j < w → inR (M 100 j) 0 4 ∧ (isOf M j → (∃ t, t < 64 ∧ M 101 j = nI t) ∧ inR (M 102 j) (-999) 999 ∧ (M 100 j = 2 ↔ 0 < j ∧ isOf M (j - 1))) ∧ (¬ isOf M j → M 101 j = 0 ∧ M 102 j = 0) ∧ (isOf M j → M 101 j &&& ((M 86 23 ||| M 86 24) ^^^ (-1)) = 0))
def I_led (M : MM) : Prop := (∃ n, n ≤ 16 ∧ M 31 2 = nI n ∧ M 86 37 = nI n ∧ (∀ i, i < n → (M (36 + i) 0 = M 111 i ∧ M (36 + i) 1 = M 112 i ∧ M (36 + i) 2 = M 113 i ∧ M (36 + i) 3 = M 114 i ∧ M (36 + i) 4 = M 115 i ∧ M (36 + i) 5 = M 116 i) ∧ inR (M 111 i) 0 3 ∧ (∃ a, a < 4 ∧ M 112 i = nI a) ∧ (∃ b, b < 4 ∧ M 113 i = nI b) ∧ inR (M 114 i) 0 999 ∧ (M 111 i = 0 → inR (M 115 i) 0 9999) ∧ (M 111 i = 1 ∨ M 111 i = 3 → inR (M 115 i) 0 9) ∧ (M 111 i = 2 → ∃ q, q < i ∧ M 115 i = nI q) ∧ inR (M 116 i) 0 999 ∧ ((M (36 + i) 6 = -1 ∧ M 117 i = -4) ∨ (M (36 + i) 6 = M 117 i ∧ inR (M 117 i) 0 9999))) ∧ ∀ i, n ≤ i → i < 16 → M (36 + i) 6 = -1) ∧
  ∀ e, e < 10 → (M 34 e = -1 ∧ M 118 e = -4) ∨ (M 34 e = M 118 e ∧ inR (M 118 e) 0 9999 ∧ M 35 e = M 119 e ∧ inR (M 119 e) 0 9999)
def sm2 (a b : Int32) : Int32 := (37 * a + 101 * b + 13) - (37 * a + 101 * b + 13) / 9973 * 9973
def I_row (M : MM) : Prop := (∀ i, i < 8 → M 53 (8 + i) = M 123 i ∧ inR (M 123 i) 0 999) ∧ ∀ n, 0 < n → n < 8 → M 53 n = sm2 (M 53 (2 * n)) (M 53 (2 * n + 1))
def I_sheet (M : MM) : Prop := ∀ s, s < 4 → M (78 + 2 * s) 1 = M 124 s ∧ inR (M 124 s) (-1) 2 ∧ (¬ M 124 s = -1 → ∃ n, n ≤ 12 ∧ M (78 + 2 * s) 2 = nI n ∧ M 125 s = nI n) ∧ ∀ j, j < 12 → M (79 + 2 * s) j = M 126 (12 * s + j)
/-! groups: the table that the class keeps, as a function of the wishes -/
def nov : Int32 := -1000000
def gMx (x y : Int32) : Int32 := if x < y then y else x
/-- the best of a set parted between a house with worths w, bars b and the others' row o; parts p, p-1 .. -/
def gPt (w b o : Nat → Int32) (pool : Nat) : Nat → Int32
  | 0 => o pool
  | p + 1 => if (p + 1) &&& pool = p + 1 ∧ ¬ o (pool ^^^ (p + 1)) = nov ∧ b (p + 1) = 0 then gMx (gPt w b o pool p) (o (pool ^^^ (p + 1)) + w (p + 1)) else gPt w b o pool p
def gRow (M : MM) (i : Nat) (g : Nat) : Nat → Nat → Int32
  | 0 => fun _ => nov
  | f + 1 => if g = 0 then fun _ => nov else
    if g % 2 = 1 then (if g / 2 = 0 then fun p => (if M (58 + 4 * i) p = 0 then M (57 + 4 * i) p else nov) else fun p => gPt (M (57 + 4 * i)) (M (58 + 4 * i)) (gRow M (i + 1) (g / 2) f) p p)
    else gRow M (i + 1) (g / 2) f
def I_grp (M : MM) : Prop := ∃ st, st < 16 ∧ M 11 1 = nI st ∧ ∀ g, 0 < g → g < 16 → g &&& st = 0 → ∀ p, p < 64 → M (13 + g) p = gRow M 0 g 4 p
def Inv (μ : Mm) : Prop := I_own μ.1 ∧ I_coin μ.1 ∧ I_lev μ.1 ∧ I_wish μ.1 ∧ I_tape μ.1 ∧ I_talk μ.1 μ.2 ∧ I_led μ.1 ∧ I_row μ.1 ∧ I_sheet μ.1 ∧ I_grp μ.1
/-- one call of the class, and the same of the model: one answer, and all holds again -/
def Jnt (mc mm : aM) (as : List Value) : Prop := ∀ (X : aX) (μ : Mm) (Q : Option Value → Mm → Prop), Inv μ → (∀ (v : Int32) (μ1 : Mm), (∀ Q' : Option Value → Mm → Prop, (∀ μ2, Inv μ2 → Q' (some (.int v)) μ2) → WP X mm 0 (lv_args 0 (.ref 86 :: as)) [] μ1 Q') → Q (some (.int v)) μ1) → WP X mc 0 (lv_args 0 (.ref 0 :: as)) [] μ Q
def JntL (mc mm : aM) (as : List Value) : Prop := ∀ (X : aX) (μ : Mm) (Q : Option Value → Mm → Prop), Inv μ → (∀ (v : Int64) (μ1 : Mm), (∀ Q' : Option Value → Mm → Prop, (∀ μ2, Inv μ2 → Q' (some (.long v)) μ2) → WP X mm 0 (lv_args 0 (.ref 86 :: as)) [] μ1 Q') → Q (some (.long v)) μ1) → WP X mc 0 (lv_args 0 (.ref 0 :: as)) [] μ Q
section CONGR
variable {M M' : MM} {R R' : Nat → Nat → Nat}
theorem own_c (h1 : M' 87 = M 87) (h2 : ∀ i, i < 4 → M' (55 + 4 * i) 0 = M (55 + 4 * i) 0) (h : I_own M) : I_own M' := by
  unfold I_own at *
  rw [h1]
  exact ⟨h.1, fun i hi => (h2 i hi).trans (h.2 i hi)⟩
theorem coin_c (h1 : M' 88 = M 88) (h2 : ∀ i, i < 4 → M' (55 + 4 * i) 1 = M (55 + 4 * i) 1) (h : I_coin M) : I_coin M' := by
  unfold I_coin at *
  rw [h1]
  exact fun i hi => ⟨(h2 i hi).trans (h i hi).1, (h i hi).2⟩
theorem lev_c (h1 : M' 89 = M 89 ∧ M' 90 = M 90 ∧ M' 91 = M 91) (h2 : ∀ i, i < 4 → M' (55 + 4 * i) 2 = M (55 + 4 * i) 2 ∧ M' (55 + 4 * i) 3 = M (55 + 4 * i) 3 ∧ M' (55 + 4 * i) 4 = M (55 + 4 * i) 4) (h : I_lev M) : I_lev M' := by
  unfold I_lev at *
  rw [h1.1, h1.2.1, h1.2.2]
  intro i hi
  obtain ⟨a1, a2, a3⟩ := h2 i hi
  obtain ⟨b1, b2, b3⟩ := h i hi
  exact ⟨⟨a1.trans b1.1, b1.2⟩, ⟨a2.trans b2.1, b2.2⟩, ⟨a3.trans b3.1, b3.2⟩⟩
theorem wF_c (h1 : M' 93 = M 93) (h2 : M' 94 = M 94) (i : Nat) (s : Int32) : ∀ n, wF M' i s n = wF M i s n
  | 0 => rfl
  | n + 1 => by simp only [wF, h1, h2, wF_c h1 h2 i s n]
theorem bF_c (h1 : M' 93 = M 93) (h2 : M' 95 = M 95) (i : Nat) (s : Int32) : ∀ n, bF M' i s n = bF M i s n
  | 0 => rfl
  | n + 1 => by simp only [bF, h1, h2, bF_c h1 h2 i s n]
theorem wish_c (h1 : M' 92 = M 92 ∧ M' 93 = M 93 ∧ M' 94 = M 94 ∧ M' 95 = M 95) (h2 : ∀ i, i < 4 → M' (56 + 4 * i) = M (56 + 4 * i) ∧ M' (57 + 4 * i) = M (57 + 4 * i) ∧ M' (58 + 4 * i) = M (58 + 4 * i)) (h : I_wish M) : I_wish M' := by
  unfold I_wish at *
  intro i hi
  obtain ⟨a1, a2, a3⟩ := h2 i hi
  obtain ⟨b1, b2, b3, b4⟩ := h1
  obtain ⟨n, q⟩ := h i hi
  refine ⟨n, ?_⟩
  rw [a1, a2, a3, b1, b2, b3, b4]
  simp only [wF_c b2 b3, bF_c b2 b4]
  exact q
theorem tape_c (h1 : M' 2 1 = M 2 1) (h2 : M' 86 10 = M 86 10) (h3 : M' 3 = M 3) (h4 : M' 96 = M 96) (h : I_tape M) : I_tape M' := by
  unfold I_tape at *
  rw [h1, h2, h3, h4]
  exact h
theorem talk_c (h1 : M' 73 = M 73 ∧ M' 74 = M 74 ∧ M' 75 = M 75 ∧ M' 76 = M 76 ∧ M' 77 = M 77) (h2 : M' 100 = M 100 ∧ M' 101 = M 101 ∧ M' 102 = M 102) (h3 : ∀ j, 15 ≤ j → j ≤ 26 → M' 86 j = M 86 j) (h4 : M 86 15 = 1 → M' 87 = M 87 ∧ M' 88 = M 88) (h5 : R' 74 = R 74) (h : I_talk M R) : I_talk M' R' := by
  unfold I_talk isOf at *
  obtain ⟨a1, a2, a3, a4, a5⟩ := h1
  obtain ⟨b1, b2, b3⟩ := h2
  rw [a1, a2, a3, a4, a5, b1, b2, b3, h5, h3 15 (by decide) (by decide), h3 16 (by decide) (by decide), h3 17 (by decide) (by decide), h3 18 (by decide) (by decide), h3 19 (by decide) (by decide), h3 23 (by decide) (by decide), h3 24 (by decide) (by decide), h3 25 (by decide) (by decide), h3 26 (by decide) (by decide)]
  obtain ⟨c1, c2, c3, c4, w, c5, c6, c7, c8⟩ := h
  refine ⟨c1, c2, c3, c4, w, c5, c6, c7, fun hn => ?_⟩
  obtain ⟨a, b, mo, d1, d2, d3, d4, d5, d6, d7, d8, d9, d10⟩ := c8 hn
  refine ⟨a, b, mo, d1, d2, d3, d4, d5, d6, d7, d8, fun ho => ?_, d10⟩
  rw [(h4 ho).1, (h4 ho).2]
  exact d9 ho
theorem led_c (h1 : M' 31 2 = M 31 2) (h2 : M' 86 37 = M 86 37) (h3 : ∀ i, i < 16 → M' (36 + i) = M (36 + i)) (h4 : ∀ c, 111 ≤ c → c ≤ 119 → M' c = M c) (h5 : M' 34 = M 34 ∧ M' 35 = M 35) (h : I_led M) : I_led M' := by
  unfold I_led at *
  rw [h1, h2, h5.1, h5.2, h4 111 (by decide) (by decide), h4 112 (by decide) (by decide), h4 113 (by decide) (by decide), h4 114 (by decide) (by decide), h4 115 (by decide) (by decide), h4 116 (by decide) (by decide), h4 117 (by decide) (by decide), h4 118 (by decide) (by decide), h4 119 (by decide) (by decide)]
  obtain ⟨⟨n, a1, a2, a3, a4, a5⟩, a6⟩ := h
  refine ⟨⟨n, a1, a2, a3, fun i hi => ?_, fun i hi hj => ?_⟩, a6⟩
  · rw [h3 i (by omega)]; exact a4 i hi
  · rw [h3 i hj]; exact a5 i hi hj
theorem row_c (h1 : M' 53 = M 53) (h2 : M' 123 = M 123) (h : I_row M) : I_row M' := by
  unfold I_row at *
  rw [h1, h2]; exact h
theorem sheet_c (h1 : M' 124 = M 124 ∧ M' 125 = M 125 ∧ M' 126 = M 126) (h2 : ∀ s, s < 4 → M' (78 + 2 * s) = M (78 + 2 * s) ∧ M' (79 + 2 * s) = M (79 + 2 * s)) (h : I_sheet M) : I_sheet M' := by
  unfold I_sheet at *
  rw [h1.1, h1.2.1, h1.2.2]
  intro s hs
  rw [(h2 s hs).1, (h2 s hs).2]
  exact h s hs
theorem gRow_c (h : ∀ i, i < 4 → M' (57 + 4 * i) = M (57 + 4 * i) ∧ M' (58 + 4 * i) = M (58 + 4 * i)) : ∀ (f i g : Nat), i + f ≤ 4 → gRow M' i g f = gRow M i g f
  | 0, _, _, _ => rfl
  | f + 1, i, g, hi => by
    unfold gRow
    rw [(h i (by omega)).1, (h i (by omega)).2, gRow_c h f (i + 1) (g / 2) (by omega)]
theorem grp_c (h1 : M' 11 1 = M 11 1) (h2 : ∀ g, g < 16 → M' (13 + g) = M (13 + g)) (h3 : ∀ i, i < 4 → M' (57 + 4 * i) = M (57 + 4 * i) ∧ M' (58 + 4 * i) = M (58 + 4 * i)) (h : I_grp M) : I_grp M' := by
  unfold I_grp at *
  obtain ⟨st, a1, a2, a3⟩ := h
  refine ⟨st, a1, h1.trans a2, fun g hg hg2 hs p hp => ?_⟩
  rw [h2 g hg2, gRow_c h3 4 0 g (by omega)]
  exact a3 g hg hg2 hs p hp
end CONGR

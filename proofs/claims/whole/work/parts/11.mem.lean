/-! THE MEMORY: what the 127 cells hold, by cell and place -/
abbrev Mm : Type := (Nat → Nat → Int32) × (Nat → Nat → Nat)
abbrev Shp : Type := (Nat × List (Nat × Nat)) ⊕ ((Nat × Nat) ⊕ (Nat × Nat × List Nat))
def shp : List Shp := [.inl (11, [(1, 1), (1, 2), (1, 4), (1, 7), (1, 10), (1, 11), (1, 71), (1, 72), (1, 73), (1, 29), (1, 31), (1, 52), (1, 54)]),
  .inr (.inr (2, 4, [55, 59, 63, 67])),
  .inl (8, [(1, 3), (0, 0), (0, 0)]),
  .inr (.inl (0, 90)),
  .inl (10, [(0, 0), (1, 5), (1, 6)]),
  .inr (.inl (0, 64)),
  .inr (.inl (1, 64)),
  .inl (10, [(0, 0), (1, 8), (1, 9)]),
  .inr (.inl (0, 64)),
  .inr (.inl (1, 64)),
  .inr (.inl (0, 6)),
  .inl (0, [(1, 12), (0, 0)]),
  .inr (.inr (5, 16, [13, 14, 15, 16, 17, 18, 19, 20, 21, 22, 23, 24, 25, 26, 27, 28])),
  .inr (.inl (0, 64)),
  .inr (.inl (0, 64)),
  .inr (.inl (0, 64)),
  .inr (.inl (0, 64)),
  .inr (.inl (0, 64)),
  .inr (.inl (0, 64)),
  .inr (.inl (0, 64)),
  .inr (.inl (0, 64)),
  .inr (.inl (0, 64)),
  .inr (.inl (0, 64)),
  .inr (.inl (0, 64)),
  .inr (.inl (0, 64)),
  .inr (.inl (0, 64)),
  .inr (.inl (0, 64)),
  .inr (.inl (0, 64)),
  .inr (.inl (0, 64)),
  .inl (3, [(0, 0), (0, 0), (0, 0), (1, 30), (0, 0)]),
  .inr (.inl (0, 64)),
  .inl (2, [(1, 32), (1, 33), (0, 0), (1, 34), (1, 35)]),
  .inr (.inr (3, 16, [36, 37, 38, 39, 40, 41, 42, 43, 44, 45, 46, 47, 48, 49, 50, 51])),
  .inr (.inl (0, 16)),
  .inr (.inl (0, 10)),
  .inr (.inl (0, 10)),
  .inl (9, [(0, 0), (0, 0), (0, 0), (0, 0), (0, 0), (0, 0), (0, 0)]),
  .inl (9, [(0, 0), (0, 0), (0, 0), (0, 0), (0, 0), (0, 0), (0, 0)]),
  .inl (9, [(0, 0), (0, 0), (0, 0), (0, 0), (0, 0), (0, 0), (0, 0)]),
  .inl (9, [(0, 0), (0, 0), (0, 0), (0, 0), (0, 0), (0, 0), (0, 0)]),
  .inl (9, [(0, 0), (0, 0), (0, 0), (0, 0), (0, 0), (0, 0), (0, 0)]),
  .inl (9, [(0, 0), (0, 0), (0, 0), (0, 0), (0, 0), (0, 0), (0, 0)]),
  .inl (9, [(0, 0), (0, 0), (0, 0), (0, 0), (0, 0), (0, 0), (0, 0)]),
  .inl (9, [(0, 0), (0, 0), (0, 0), (0, 0), (0, 0), (0, 0), (0, 0)]),
  .inl (9, [(0, 0), (0, 0), (0, 0), (0, 0), (0, 0), (0, 0), (0, 0)]),
  .inl (9, [(0, 0), (0, 0), (0, 0), (0, 0), (0, 0), (0, 0), (0, 0)]),
  .inl (9, [(0, 0), (0, 0), (0, 0), (0, 0), (0, 0), (0, 0), (0, 0)]),
  .inl (9, [(0, 0), (0, 0), (0, 0), (0, 0), (0, 0), (0, 0), (0, 0)]),
  .inl (9, [(0, 0), (0, 0), (0, 0), (0, 0), (0, 0), (0, 0), (0, 0)]),
  .inl (9, [(0, 0), (0, 0), (0, 0), (0, 0), (0, 0), (0, 0), (0, 0)]),
  .inl (9, [(0, 0), (0, 0), (0, 0), (0, 0), (0, 0), (0, 0), (0, 0)]),
  .inl (9, [(0, 0), (0, 0), (0, 0), (0, 0), (0, 0), (0, 0), (0, 0)]),
  .inl (5, [(1, 53)]),
  .inr (.inl (0, 16)),
  .inr (.inr (4, 4, [78, 80, 82, 84])),
  .inl (1, [(0, 0), (0, 0), (0, 0), (0, 0), (0, 0), (1, 56)]),
  .inl (10, [(0, 0), (1, 57), (1, 58)]),
  .inr (.inl (0, 64)),
  .inr (.inl (1, 64)),
  .inl (1, [(0, 0), (0, 0), (0, 0), (0, 0), (0, 0), (1, 60)]),
  .inl (10, [(0, 0), (1, 61), (1, 62)]),
  .inr (.inl (0, 64)),
  .inr (.inl (1, 64)),
  .inl (1, [(0, 0), (0, 0), (0, 0), (0, 0), (0, 0), (1, 64)]),
  .inl (10, [(0, 0), (1, 65), (1, 66)]),
  .inr (.inl (0, 64)),
  .inr (.inl (1, 64)),
  .inl (1, [(0, 0), (0, 0), (0, 0), (0, 0), (0, 0), (1, 68)]),
  .inl (10, [(0, 0), (1, 69), (1, 70)]),
  .inr (.inl (0, 64)),
  .inr (.inl (1, 64)),
  .inl (4, [(0, 0), (0, 0), (0, 0), (0, 0), (2, 0), (2, 0)]),
  .inl (4, [(0, 0), (0, 0), (0, 0), (0, 0), (2, 0), (2, 0)]),
  .inl (7, [(0, 0), (0, 0), (0, 0), (0, 0), (0, 0), (1, 74), (1, 75), (1, 76), (1, 77)]),
  .inl (4, [(0, 0), (0, 0), (0, 0), (0, 0), (2, 0), (2, 0)]),
  .inr (.inl (0, 20)),
  .inr (.inl (0, 20)),
  .inr (.inl (0, 20)),
  .inl (6, [(1, 79), (0, 0), (0, 0)]),
  .inr (.inl (0, 12)),
  .inl (6, [(1, 81), (0, 0), (0, 0)]),
  .inr (.inl (0, 12)),
  .inl (6, [(1, 83), (0, 0), (0, 0)]),
  .inr (.inl (0, 12)),
  .inl (6, [(1, 85), (0, 0), (0, 0)]),
  .inr (.inl (0, 12)),
  .inl (12, [(1, 87), (1, 88), (1, 89), (1, 90), (1, 91), (1, 92), (1, 93), (1, 94), (1, 95), (1, 96), (0, 0), (0, 0), (1, 97), (1, 98), (1, 99), (0, 0), (0, 0), (0, 0), (0, 0), (0, 0), (1, 100), (1, 101), (1, 102), (0, 0), (0, 0), (0, 0), (0, 0), (1, 103), (1, 104), (0, 0), (1, 105), (0, 0), (1, 106), (1, 107), (1, 108), (1, 109), (1, 110), (0, 0), (1, 111), (1, 112), (1, 113), (1, 114), (1, 115), (1, 116), (1, 117), (1, 118), (1, 119), (1, 120), (1, 121), (1, 122), (1, 123), (1, 124), (1, 125), (1, 126)]),
  .inr (.inl (0, 6)),
  .inr (.inl (0, 4)),
  .inr (.inl (0, 4)),
  .inr (.inl (0, 4)),
  .inr (.inl (0, 4)),
  .inr (.inl (0, 4)),
  .inr (.inl (0, 48)),
  .inr (.inl (0, 48)),
  .inr (.inl (1, 48)),
  .inr (.inl (0, 90)),
  .inr (.inl (0, 12)),
  .inr (.inl (0, 12)),
  .inr (.inl (1, 12)),
  .inr (.inl (0, 20)),
  .inr (.inl (0, 20)),
  .inr (.inl (0, 20)),
  .inr (.inl (0, 64)),
  .inr (.inl (0, 64)),
  .inr (.inl (0, 6)),
  .inr (.inl (0, 6)),
  .inr (.inl (0, 16)),
  .inr (.inl (1, 16)),
  .inr (.inl (0, 4)),
  .inr (.inl (0, 4)),
  .inr (.inl (0, 16)),
  .inr (.inl (0, 16)),
  .inr (.inl (0, 16)),
  .inr (.inl (0, 16)),
  .inr (.inl (0, 16)),
  .inr (.inl (0, 16)),
  .inr (.inl (0, 16)),
  .inr (.inl (0, 10)),
  .inr (.inl (0, 10)),
  .inr (.inl (0, 16)),
  .inr (.inl (0, 16)),
  .inr (.inl (0, 16)),
  .inr (.inl (0, 8)),
  .inr (.inl (0, 4)),
  .inr (.inl (0, 4)),
  .inr (.inl (0, 48))]
def slv (μ : Mm) (a j : Nat) (q : Nat × Nat) : Value := match q.1 with
  | 0 => .int (μ.1 a j)
  | 1 => .ref q.2
  | _ => .ref (μ.2 a j)
def rfH (H : aH) (a i : Nat) : Option Nat := match H.1[a]? with
  | some (.inl (_, _, .inr (.inr (.inr (.inr f))))) => f i
  | _ => none
/-- the rows of references, as the constructors left them -/
def rf0 : Nat → Nat → Option Nat := rfH h0
def rfChk (a : Nat) : Bool := match (shp[a]? : Option Shp) with
  | some (Sum.inr (Sum.inr (_, n, rs))) => (List.range n).all (fun i => decide (rf0 a i = rs[i]?)) && decide (rs.length = n)
  | _ => true
theorem rf0_b : ∀ a, a < 127 → rfChk a = true := by decide +kernel
theorem rf0_of {a t n i v : Nat} {rs : List Nat} (h : shp[a]? = some (.inr (.inr (t, n, rs)))) (hv : rs[i]? = some v) : rf0 a i = some v := by
  have ha : a < 127 := (List.getElem?_eq_some_iff.mp h).1
  have h1 := rf0_b a ha
  unfold rfChk at h1
  rw [h] at h1
  simp only [Bool.and_eq_true, List.all_eq_true, List.mem_range, decide_eq_true_eq] at h1
  have hi : i < n := by rw [← h1.2]; exact (List.getElem?_eq_some_iff.mp hv).1
  rw [h1.1 i hi, hv]
def cb (μ : Mm) (a : Nat) (s : Shp) : aC := match s with
  | .inl (c, sl) => .inr (c, sl.mapIdx (fun j q => slv μ a j q))
  | .inr (.inl (t, n)) => .inl (t, n, .inl (μ.1 a))
  | .inr (.inr (t, n, _)) => .inl (t, n, .inr (.inr (.inr (.inr (rf0 a)))))
theorem cb_o (μ : Mm) (a c : Nat) (sl : List (Nat × Nat)) : cb μ a (.inl (c, sl)) = .inr (c, sl.mapIdx (fun j q => slv μ a j q)) := rfl
theorem cb_a (μ : Mm) (a t n : Nat) : cb μ a (.inr (.inl (t, n))) = .inl (t, n, .inl (μ.1 a)) := rfl
theorem cb_r (μ : Mm) (a t n : Nat) (rs : List Nat) : cb μ a (.inr (.inr (t, n, rs))) = .inl (t, n, .inr (.inr (.inr (.inr (rf0 a))))) := rfl
def enc (μ : Mm) : aH := (shp.mapIdx (fun a s => cb μ a s), 3208)
def up2 (M : Nat → Nat → Int32) (a j : Nat) (v : Int32) : Nat → Nat → Int32 := fun x y => if x = a ∧ y = j then v else M x y
def upR (M : Nat → Nat → Nat) (a j : Nat) (v : Nat) : Nat → Nat → Nat := fun x y => if x = a ∧ y = j then v else M x y
theorem up2_ne {M : Nat → Nat → Int32} {a j x : Nat} {v : Int32} (h : x ≠ a) : up2 M a j v x = M x := by
  funext y; simp [up2, h]
theorem up2_row {M : Nat → Nat → Int32} {a j : Nat} {v : Int32} : up2 M a j v a = upd (M a) j v := by
  funext y; simp [up2, upd]
theorem enc_get {μ : Mm} {a : Nat} {s : Shp} (h : shp[a]? = some s) : (enc μ).1[a]? = some (cb μ a s) := by simp [enc, h]
theorem enc_len (μ : Mm) : (enc μ).1.length = 127 := by simp [enc]; rfl
theorem cb_ne {μ μ' : Mm} {i : Nat} {s : Shp} (h1 : μ'.1 i = μ.1 i) (h2 : μ'.2 i = μ.2 i) : cb μ' i s = cb μ i s := by
  rcases s with ⟨c, sl⟩ | ⟨t, n⟩ | ⟨t, n, rs⟩
  · simp only [cb, slv, h1, h2]
  · simp only [cb, h1]
  · rfl
theorem enc_set {μ μ' : Mm} {a : Nat} {s : Shp} {e : aC} (h : shp[a]? = some s) (he : e = cb μ' a s) (h1 : ∀ i, i ≠ a → μ'.1 i = μ.1 i) (h2 : ∀ i, i ≠ a → μ'.2 i = μ.2 i) : ((enc μ).1.set a e, (enc μ).2) = enc μ' := by
  refine Prod.ext ?_ rfl
  apply List.ext_getElem?
  intro i
  simp only [enc, List.getElem?_set, List.getElem?_mapIdx, List.length_mapIdx]
  by_cases hi : a = i
  · subst hi
    have hl := (List.getElem?_eq_some_iff.mp h).1
    rw [if_pos rfl, if_pos hl, h]
    simp only [Option.map_some, he]
  · simp only [hi, if_false]
    cases hs : shp[i]? with
    | none => rfl
    | some s2 => simp only [Option.map_some]; rw [cb_ne (h1 i (fun z => hi z.symm)) (h2 i (fun z => hi z.symm))]
theorem cb_putI {μ : Mm} {a c j z : Nat} {v : Int32} {sl : List (Nat × Nat)} (hj : sl[j]? = some (0, z)) : (.inr (c, (sl.mapIdx (fun j q => slv μ a j q)).set j (.int v)) : aC) = cb (up2 μ.1 a j v, μ.2) a (.inl (c, sl)) := by
  simp only [cb]
  congr 2
  apply List.ext_getElem?
  intro i
  simp only [List.getElem?_set, List.getElem?_mapIdx, List.length_mapIdx]
  by_cases hi : j = i
  · subst hi
    have hl := (List.getElem?_eq_some_iff.mp hj).1
    rw [if_pos rfl, if_pos hl, hj]
    simp [slv, up2]
  · simp only [hi, if_false]
    cases hs : sl[i]? with
    | none => rfl
    | some s2 =>
      simp only [Option.map_some, slv, up2]
      have : ¬ i = j := fun z => hi z.symm
      simp [this]
theorem cb_putR {μ : Mm} {a c j z v : Nat} {sl : List (Nat × Nat)} (hj : sl[j]? = some (2, z)) : (.inr (c, (sl.mapIdx (fun j q => slv μ a j q)).set j (.ref v)) : aC) = cb (μ.1, upR μ.2 a j v) a (.inl (c, sl)) := by
  simp only [cb]
  congr 2
  apply List.ext_getElem?
  intro i
  simp only [List.getElem?_set, List.getElem?_mapIdx, List.length_mapIdx]
  by_cases hi : j = i
  · subst hi
    have hl := (List.getElem?_eq_some_iff.mp hj).1
    rw [if_pos rfl, if_pos hl, hj]
    simp [slv, upR]
  · simp only [hi, if_false]
    cases hs : sl[i]? with
    | none => rfl
    | some s2 =>
      simp only [Option.map_some, slv, upR]
      have : ¬ i = j := fun z => hi z.symm
      simp [this]
theorem enc_putI {μ : Mm} {a c j z : Nat} {v : Int32} {sl : List (Nat × Nat)} (h : shp[a]? = some (.inl (c, sl))) (hj : sl[j]? = some (0, z)) : ((enc μ).1.set a (.inr (c, (sl.mapIdx (fun j q => slv μ a j q)).set j (.int v))), (enc μ).2) = enc (up2 μ.1 a j v, μ.2) :=
  enc_set h (cb_putI hj) (fun _ hi => up2_ne hi) (fun _ _ => rfl)
theorem enc_putR {μ : Mm} {a c j z v : Nat} {sl : List (Nat × Nat)} (h : shp[a]? = some (.inl (c, sl))) (hj : sl[j]? = some (2, z)) : ((enc μ).1.set a (.inr (c, (sl.mapIdx (fun j q => slv μ a j q)).set j (.ref v))), (enc μ).2) = enc (μ.1, upR μ.2 a j v) :=
  enc_set h (cb_putR hj) (fun _ _ => rfl) (fun i hi => by funext y; simp [upR, hi])
theorem enc_putA {μ : Mm} {a t n i : Nat} {v : Int32} (h : shp[a]? = some (.inr (.inl (t, n)))) : ((enc μ).1.set a (.inl (t, n, .inl (upd (μ.1 a) i v))), (enc μ).2) = enc (up2 μ.1 a i v, μ.2) :=
  enc_set h (by simp only [cb, up2_row]) (fun _ hi => up2_ne hi) (fun _ _ => rfl)
theorem enc_obj {μ : Mm} {a c : Nat} {sl : List (Nat × Nat)} (h : shp[a]? = some (.inl (c, sl))) : aObj (enc μ) a = some (c, sl.mapIdx (fun j q => slv μ a j q)) := by unfold aObj; rw [enc_get h]; rfl
theorem enc_arI {μ : Mm} {a t n : Nat} (h : shp[a]? = some (.inr (.inl (t, n)))) : aArI (enc μ) t a = some (n, μ.1 a) := by unfold aArI; rw [enc_get h]; simp [cb]
theorem enc_arR {μ : Mm} {a t n : Nat} {rs : List Nat} (h : shp[a]? = some (.inr (.inr (t, n, rs)))) : aArR (enc μ) a = some (t, n, rf0 a) := by unfold aArR; rw [enc_get h]; rfl
/-- what the memory is, by a heap -/
def vw (h : aH) : Mm := (fun a j => match h.1[a]? with
    | some (.inl (_, _, .inl f)) => f j
    | some (.inr (_, fs)) => (match fs[j]? with
      | some (.int x) => x
      | _ => 0)
    | _ => 0, fun a j => match h.1[a]? with
    | some (.inr (_, fs)) => (match fs[j]? with
      | some (.ref x) => x
      | _ => 0)
    | _ => 0)
def chkV (q : Nat × Nat) (v : Value) : Bool := match q.1, v with
  | 0, .int _ => true
  | 1, .ref k => k == q.2
  | 2, .ref _ => true
  | _, _ => false
def chkC (s : Shp) (e : aC) : Bool := match s, e with
  | .inl (c, sl), .inr (c', fs) => c == c' && sl.length == fs.length && (List.range sl.length).all (fun j => match sl[j]?, fs[j]? with
    | some q, some v => chkV q v
    | _, _ => false)
  | .inr (.inl (t, n)), .inl (t', n', .inl _) => t == t' && n == n'
  | .inr (.inr (t, n, _)), .inl (t', n', .inr (.inr (.inr (.inr _)))) => t == t' && n == n'
  | _, _ => false
theorem chk_h0 : (List.range 127).all (fun a => match shp[a]?, h0.1[a]? with | some s, some e => chkC s e | _, _ => false) = true := by decide +kernel
theorem chkV_eq {H : aH} {a j c : Nat} {fs : List Value} {q : Nat × Nat} {v : Value} (he : H.1[a]? = some (.inr (c, fs))) (hv : fs[j]? = some v) (h : chkV q v = true) : v = slv (vw H) a j q := by
  obtain ⟨q1, q2⟩ := q
  unfold chkV at h
  unfold slv
  split at h
  · next e1 => cases e1; simp only [vw, he, hv]
  · next e1 => cases e1; rw [beq_iff_eq] at h; cases h; rfl
  · next e1 => cases e1; simp only [vw, he, hv]
  · cases h
theorem chkO_eq {H : aH} {a c c' : Nat} {fs : List Value} {sl : List (Nat × Nat)} (he : H.1[a]? = some (.inr (c', fs))) (h : chkC (.inl (c, sl)) (.inr (c', fs)) = true) : (.inr (c', fs) : aC) = .inr (c, sl.mapIdx (fun j q => slv (vw H) a j q)) := by
  unfold chkC at h
  simp only [Bool.and_eq_true, beq_iff_eq, List.all_eq_true, List.mem_range] at h
  obtain ⟨⟨rfl, hl⟩, h3⟩ := h
  refine congrArg (fun z => (Sum.inr (c, z) : aC)) ?_
  apply List.ext_getElem?
  intro j
  simp only [List.getElem?_mapIdx]
  by_cases hj : j < sl.length
  · have h4 := h3 j hj
    have hj2 : j < fs.length := by rw [← hl]; exact hj
    have g1 : sl[j]? = some sl[j] := List.getElem?_eq_getElem hj
    have g2 : fs[j]? = some fs[j] := List.getElem?_eq_getElem hj2
    rw [g1, g2] at h4
    rw [g1, g2]
    exact congrArg some (chkV_eq he g2 h4)
  · rw [List.getElem?_eq_none (by omega), List.getElem?_eq_none (by omega)]; rfl
theorem chkA_eq {H : aH} {a t n t' n' : Nat} {f : Nat → Int32} (he : H.1[a]? = some (.inl (t', n', .inl f))) (h : chkC (.inr (.inl (t, n))) (.inl (t', n', .inl f)) = true) : (.inl (t', n', .inl f) : aC) = .inl (t, n, .inl ((vw H).1 a)) := by
  unfold chkC at h
  simp only [Bool.and_eq_true, beq_iff_eq] at h
  obtain ⟨rfl, rfl⟩ := h
  refine congrArg (fun z => (Sum.inl (t, n, Sum.inl z) : aC)) ?_
  funext j
  simp only [vw, he]
theorem chkR_eq {H : aH} {a t n t' n' : Nat} {rs : List Nat} {f : Nat → Option Nat} (he : H.1[a]? = some (.inl (t', n', .inr (.inr (.inr (.inr f)))))) (h : chkC (.inr (.inr (t, n, rs))) (.inl (t', n', .inr (.inr (.inr (.inr f))))) = true) : (.inl (t', n', .inr (.inr (.inr (.inr f)))) : aC) = .inl (t, n, .inr (.inr (.inr (.inr (rfH H a))))) := by
  unfold chkC at h
  simp only [Bool.and_eq_true, beq_iff_eq] at h
  obtain ⟨rfl, rfl⟩ := h
  refine congrArg (fun z => (Sum.inl (t, n, Sum.inr (Sum.inr (Sum.inr (Sum.inr z)))) : aC)) ?_
  funext i
  simp only [rfH, he]
theorem chkC_eq {H : aH} {a : Nat} {s : Shp} {e : aC} (he : H.1[a]? = some e) (h : chkC s e = true) : (∃ c sl, s = .inl (c, sl) ∧ e = .inr (c, sl.mapIdx (fun j q => slv (vw H) a j q))) ∨ (∃ t n, s = .inr (.inl (t, n)) ∧ e = .inl (t, n, .inl ((vw H).1 a))) ∨ (∃ t n rs, s = .inr (.inr (t, n, rs)) ∧ e = .inl (t, n, .inr (.inr (.inr (.inr (rfH H a)))))) := by
  rcases s with ⟨c, sl⟩ | ⟨t, n⟩ | ⟨t, n, rs⟩
  · rcases e with ⟨t', n', f⟩ | ⟨c', fs⟩
    · simp [chkC] at h
    · exact Or.inl ⟨c, sl, rfl, chkO_eq he h⟩
  · rcases e with ⟨t', n', f | f | f | f | f⟩ | ⟨c', fs⟩
    · exact Or.inr (Or.inl ⟨t, n, rfl, chkA_eq he h⟩)
    all_goals simp [chkC] at h
  · rcases e with ⟨t', n', f | f | f | f | f⟩ | ⟨c', fs⟩
    case inl.inr.inr.inr.inr => exact Or.inr (Or.inr ⟨t, n, rs, rfl, chkR_eq he h⟩)
    all_goals simp [chkC] at h
def μ0 : Mm := vw h0
theorem h0_enc : aPre = some (18, [(3, .int 0), (2, .ref 86), (1, .ref 0), (0, .retAddr 0)], [], enc μ0) := by
  have h1 := aPre_ok
  unfold aPreOk at h1
  cases hp : aPre with
  | none => rw [hp] at h1; cases h1
  | some q =>
    obtain ⟨pc, L, S, h⟩ := q
    rw [hp] at h1
    simp only [Bool.and_eq_true, decide_eq_true_eq] at h1
    obtain ⟨⟨⟨⟨rfl, rfl⟩, rfl⟩, e4⟩, e5⟩ := h1
    have hh : h0 = h := by unfold h0; rw [hp]
    have : h = enc μ0 := by
      refine Prod.ext ?_ e4
      apply List.ext_getElem?
      intro a
      by_cases ha : a < 127
      · have h2 := List.all_eq_true.mp chk_h0 a (List.mem_range.mpr ha)
        have g1 : shp[a]? = some shp[a] := List.getElem?_eq_getElem ha
        have g2 : h0.1[a]? = some h.1[a] := by rw [hh]; exact List.getElem?_eq_getElem (by rw [e5]; exact ha)
        rw [g1, g2] at h2
        rw [enc_get g1, ← hh, g2]
        rcases chkC_eq g2 h2 with ⟨c, sl, e1, e2⟩ | ⟨t, n, e1, e2⟩ | ⟨t, n, rs, e1, e2⟩
        · rw [e1, e2, cb_o]; rfl
        · rw [e1, e2, cb_a]; rfl
        · rw [e1, e2, cb_r]; unfold rf0; rfl
      · rw [List.getElem?_eq_none (by omega), List.getElem?_eq_none (by rw [enc_len]; omega)]
    rw [this]
/-- the run ends, and its end is Q -/
def WP (X : aX) (m : aM) (pc : Nat) (L : aL) (S : List Value) (μ : Mm) (Q : Option Value → Mm → Prop) : Prop := ∃ n r μ', ev X n m pc L S (enc μ) = some (r, enc μ') ∧ Q r μ'
section WPR
variable {X : aX} {m : aM} {pc pc' : Nat} {L L' : aL} {S S' : List Value} {μ μ' : Mm} {Q : Option Value → Mm → Prop}
theorem wp_one {i : Instr} {len : Nat} (hd : decode (am_cd m) pc = .ok (i, len)) (hr : aRet m i len S = none) (hc : aCall m i len S (enc μ) = none) (ho : aOne X m i len pc L S (enc μ) = some (pc', L', S', enc μ')) (k : WP X m pc' L' S' μ' Q) : WP X m pc L S μ Q := by
  obtain ⟨n, r, μ2, he, hq⟩ := k
  refine ⟨n + 1, r, μ2, ?_, hq⟩
  rw [ev_succ, hd]
  simp only [hr, hc, ho]
  exact he
theorem wp_ret {i : Instr} {len : Nat} {r : Option Value} (hd : decode (am_cd m) pc = .ok (i, len)) (hr : aRet m i len S = some r) (k : Q r μ) : WP X m pc L S μ Q := by
  refine ⟨1, r, μ, ?_, k⟩
  rw [ev_succ, hd]
  simp only [hr]
theorem wp_call {i : Instr} {len : Nat} {m2 : aM} {vs : List Value} (hd : decode (am_cd m) pc = .ok (i, len)) (hr : aRet m i len S = none) (hc : aCall m i len S (enc μ) = some (m2, vs, S')) (k : WP X m2 0 (lv_args 0 vs) [] μ (fun r μ' => WP X m (pc + 3) L (r.toList ++ S') μ' Q)) : WP X m pc L S μ Q := by
  obtain ⟨n, r, μ2, he, n2, r2, μ3, he2, hq⟩ := k
  refine ⟨(n + n2) + 1, r2, μ3, ?_, hq⟩
  rw [ev_succ, hd]
  simp only [hr, hc, ev_mono n he n2]
  rw [Nat.add_comm]
  exact ev_mono n2 he2 n
theorem WP.mono {Q' : Option Value → Mm → Prop} (h : WP X m pc L S μ Q) (hq : ∀ r μ', Q r μ' → Q' r μ') : WP X m pc L S μ Q' := by
  obtain ⟨n, r, μ2, he, h2⟩ := h
  exact ⟨n, r, μ2, he, hq _ _ h2⟩
end WPR


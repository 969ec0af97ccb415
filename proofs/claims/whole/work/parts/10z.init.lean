/-! THE CONSTRUCTORS, run by the kernel -/
def aX0 : aX := fun _ => (0, fun _ => 0)
def aExt (i : Instr) (S : List Value) : Bool := match i with
  | .iaload => (match S with
    | _ :: .retAddr _ :: _ => true
    | _ => false)
  | .arraylength => (match S with
    | .retAddr _ :: _ => true
    | _ => false)
  | _ => false
def ev0 : Nat → aM → Nat → aL → List Value → aH → Option (Option Value × aH)
  | 0, _, _, _, _, _ => none
  | n + 1, m, pc, L, S, h => match decode (am_cd m) pc with
    | .ok (i, len) => (match aRet m i len S with
      | some r => some (r, h)
      | none => (match aCall m i len S h with
        | some (m2, vs, S') => (match ev0 n m2 0 (lv_args 0 vs) [] h with
          | some (r, h1) => ev0 n m (pc + 3) L (r.toList ++ S') h1
          | none => none)
        | none => (match aExt i S with
          | true => none
          | false => (match aOne aX0 m i len pc L S h with
            | some (pc', L', S', h') => ev0 n m pc' L' S' h'
            | none => none))))
    | _ => none
theorem ev0_succ (n : Nat) (m : aM) (pc : Nat) (L : aL) (S : List Value) (h : aH) : ev0 (n + 1) m pc L S h = (match decode (am_cd m) pc with
    | .ok (i, len) => (match aRet m i len S with
      | some r => some (r, h)
      | none => (match aCall m i len S h with
        | some (m2, vs, S') => (match ev0 n m2 0 (lv_args 0 vs) [] h with
          | some (r, h1) => ev0 n m (pc + 3) L (r.toList ++ S') h1
          | none => none)
        | none => (match aExt i S with
          | true => none
          | false => (match aOne aX0 m i len pc L S h with
            | some (pc', L', S', h') => ev0 n m pc' L' S' h'
            | none => none))))
    | _ => none) := rfl
theorem aOne_ext {X X' : aX} {m : aM} {i : Instr} {len pc : Nat} {L : aL} {S : List Value} {h : aH} (hx : aExt i S = false) : aOne X m i len pc L S h = aOne X' m i len pc L S h := by
  cases i with
  | iaload =>
    unfold aOne
    by_cases hl : len = 1
    · simp only [hl, if_true]
      match S, hx with
      | .int i :: .ref a :: S, _ => rfl
      | .int i :: .retAddr z :: S, hx => simp [aExt] at hx
      | [], _ => rfl
      | [a], _ => cases a <;> rfl
      | .int i :: .int a :: S, _ => rfl
      | .int i :: .long a :: S, _ => rfl
      | .int i :: .float a :: S, _ => rfl
      | .int i :: .double a :: S, _ => rfl
      | .int i :: .null :: S, _ => rfl
      | .long i :: a :: S, _ => rfl
      | .float i :: a :: S, _ => rfl
      | .double i :: a :: S, _ => rfl
      | .null :: a :: S, _ => rfl
      | .ref i :: a :: S, _ => rfl
      | .retAddr i :: a :: S, _ => rfl
    · simp only [hl, if_false]
  | arraylength =>
    unfold aOne
    by_cases hl : len = 1
    · simp only [hl, if_true]
      match S, hx with
      | .ref a :: S, _ => rfl
      | .retAddr z :: S, hx => simp [aExt] at hx
      | [], _ => rfl
      | .int a :: S, _ => rfl
      | .long a :: S, _ => rfl
      | .float a :: S, _ => rfl
      | .double a :: S, _ => rfl
      | .null :: S, _ => rfl
    · simp only [hl, if_false]
  | _ => rfl
theorem ev0_ev {X : aX} : ∀ (n : Nat) {m : aM} {pc : Nat} {L : aL} {S : List Value} {h : aH} {r : Option Value} {h' : aH}, ev0 n m pc L S h = some (r, h') → ev X n m pc L S h = some (r, h')
  | 0, m, pc, L, S, h, r, h', e => by cases e
  | n + 1, m, pc, L, S, h, r, h', e => by
    rw [ev_succ]
    rw [ev0_succ] at e
    split at e
    · next i len hd =>
      try rw [hd]
      try dsimp only
      split at e
      · next r1 hr => (try rw [hr]); exact e
      · next hr =>
        try rw [hr]
        try dsimp only
        split at e
        · next m2 vs S' hc =>
          try rw [hc]
          try dsimp only
          split at e
          · next r1 h1 he =>
            rw [ev0_ev n he]
            exact ev0_ev n e
          · cases e
        · next hc =>
          try rw [hc]
          try dsimp only
          split at e
          · cases e
          · next hx =>
            split at e
            · next pc' L' S' h2 ho =>
              rw [aOne_ext (X' := aX0) hx, ho]
              exact ev0_ev n e
            · cases e
    · cases e
/-- so many instructions of one method, its calls run to their ends -/
def evk (n : Nat) (m : aM) : Nat → Nat → aL → List Value → aH → Option (Nat × aL × List Value × aH)
  | 0, pc, L, S, h => some (pc, L, S, h)
  | k + 1, pc, L, S, h => match decode (am_cd m) pc with
    | .ok (i, len) => (match aRet m i len S with
      | some _ => none
      | none => (match aCall m i len S h with
        | some (m2, vs, S') => (match ev0 n m2 0 (lv_args 0 vs) [] h with
          | some (r, h1) => evk n m k (pc + 3) L (r.toList ++ S') h1
          | none => none)
        | none => (match aExt i S with
          | true => none
          | false => (match aOne aX0 m i len pc L S h with
            | some (pc', L', S', h') => evk n m k pc' L' S' h'
            | none => none))))
    | _ => none
theorem evk_ev {X : aX} {n : Nat} {m : aM} : ∀ (k : Nat) {pc : Nat} {L : aL} {S : List Value} {h : aH} {pc' : Nat} {L' : aL} {S' : List Value} {h' h2 : aH} {r : Option Value} {n2 : Nat}, evk n m k pc L S h = some (pc', L', S', h') → ev X n2 m pc' L' S' h' = some (r, h2) → ∃ n3, ev X n3 m pc L S h = some (r, h2)
  | 0, pc, L, S, h, pc', L', S', h', h2, r, n2, e, e2 => by cases e; exact ⟨n2, e2⟩
  | k + 1, pc, L, S, h, pc', L', S', h', h2, r, n2, e, e2 => by
    unfold evk at e
    split at e
    · next i len hd =>
      split at e
      · cases e
      · next hr =>
        split at e
        · next m2 vs S1 hc =>
          split at e
          · next r1 h1 he =>
            obtain ⟨n3, e3⟩ := evk_ev k e e2
            refine ⟨(n + n3) + 1, ?_⟩
            rw [ev_succ, hd]
            simp only [hr, hc, ev_mono n (ev0_ev (X := X) n he) n3]
            rw [Nat.add_comm]
            exact ev_mono n3 e3 n
          · cases e
        · next hc =>
          split at e
          · cases e
          · next hx =>
            split at e
            · next pc1 L1 S1 h1 ho =>
              obtain ⟨n3, e3⟩ := evk_ev k e e2
              refine ⟨n3 + 1, ?_⟩
              rw [ev_succ, hd]
              simp only [hr, hc, aOne_ext (X := X) (X' := aX0) hx, ho]
              exact e3
            · cases e
    · cases e
def aPre : Option (Nat × aL × List Value × aH) := evk 4000 mL_law 10 0 [(0, .retAddr 0)] [] ([], 0)
def h0 : aH := match aPre with
  | some (_, _, _, h) => h
  | none => ([], 0)
def aPreOk : Bool := match aPre with
  | some (pc, L, S, h) => decide (pc = 18) && decide (L = [(3, .int 0), (2, .ref 86), (1, .ref 0), (0, .retAddr 0)]) && decide (S = []) && decide (h.2 = 3208) && decide (h.1.length = 127)
  | none => false
theorem aPre_ok : aPreOk = true := by decide +kernel

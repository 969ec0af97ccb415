/-! THE SMALL MACHINE: a heap is a list of cells, a reference its place there; .retAddr 0 is the script, .retAddr 1 the row ORDERS -/
abbrev aC : Type := (Nat × vp_A) ⊕ (Nat × List Value)
abbrev aH : Type := List aC × Nat
abbrev aL : Type := List (Nat × Value)
abbrev aX : Type := Nat → Nat × (Nat → Int32)
def aL_get (L : aL) (i : Nat) : Option Value := (L.find? (fun q => q.1 == i)).map (fun q => q.2)
def aL_set (L : aL) (i : Nat) (v : Value) : aL := (i, v) :: L.filter (fun q => !(q.1 == i) && !(q.1 + 1 == i && q.2.category == 2))
def aL_set2 (L : aL) (i : Nat) (v : Value) : aL := (i, v) :: L.filter (fun q => !(q.1 == i) && (!(q.1 == i + 1) && !(q.1 + 1 == i && q.2.category == 2)))
def aTgt (pc : Nat) (off : Int) : Option Nat := match (pc : Int) + off with
  | .ofNat t => some t
  | .negSucc _ => none
theorem aTgt_eq {pc t : Nat} {off : Int} (h : aTgt pc off = some t) : (pc : Int) + off = (t : Int) := by
  unfold aTgt at h
  split at h
  · next e => cases h; exact e
  · cases h
def aC2 (c : ClassFile.Cond) (x y : Int32) : Bool := match c with
  | .eq => decide (x = y)
  | .ne => decide (¬ x = y)
  | .lt => decide (x < y)
  | .ge => decide (y ≤ x)
  | .gt => decide (y < x)
  | .le => decide (x ≤ y)
def pI (S : List Value) : Option (Int32 × List Value) := match S with
  | .int x :: S => some (x, S)
  | _ => none
def pJ (S : List Value) : Option (Int64 × List Value) := match S with
  | .long x :: S => some (x, S)
  | _ => none
def pR (S : List Value) : Option (Nat × List Value) := match S with
  | .ref x :: S => some (x, S)
  | _ => none
def pV (S : List Value) : Option (Value × List Value) := match S with
  | v :: S => if v.category = 1 then some (v, S) else none
  | _ => none
theorem pI_eq {S S' : List Value} {x : Int32} (h : pI S = some (x, S')) : S = .int x :: S' := by
  unfold pI at h; split at h
  · cases h; rfl
  · cases h
theorem pJ_eq {S S' : List Value} {x : Int64} (h : pJ S = some (x, S')) : S = .long x :: S' := by
  unfold pJ at h; split at h
  · cases h; rfl
  · cases h
theorem pR_eq {S S' : List Value} {x : Nat} (h : pR S = some (x, S')) : S = .ref x :: S' := by
  unfold pR at h; split at h
  · cases h; rfl
  · cases h
theorem pV_eq {S S' : List Value} {v : Value} (h : pV S = some (v, S')) : S = v :: S' ∧ v.category = 1 := by
  unfold pV at h; split at h
  · split at h
    · cases h; exact ⟨rfl, by assumption⟩
    · cases h
  · cases h
/-- one of two numbers on the stack: y on top, x below -/
def a2i (L : aL) (h : aH) (pc : Nat) (S : List Value) (f : Int32 → Int32 → Option Int32) : Option (Nat × aL × List Value × aH) :=
  (pI S).bind fun a => (pI a.2).bind fun b => (f b.1 a.1).bind fun v => some (pc + 1, L, .int v :: b.2, h)
def a1i (L : aL) (h : aH) (pc : Nat) (S : List Value) (f : Int32 → Value) : Option (Nat × aL × List Value × aH) :=
  (pI S).bind fun a => some (pc + 1, L, f a.1 :: a.2, h)
def a2j (L : aL) (h : aH) (pc : Nat) (S : List Value) (f : Int64 → Int64 → Value) : Option (Nat × aL × List Value × aH) :=
  (pJ S).bind fun a => (pJ a.2).bind fun b => some (pc + 1, L, f b.1 a.1 :: b.2, h)
def a2s (L : aL) (h : aH) (pc : Nat) (S : List Value) (f : Int64 → Int32 → Int64) : Option (Nat × aL × List Value × aH) :=
  (pI S).bind fun a => (pJ a.2).bind fun b => some (pc + 1, L, .long (f b.1 a.1) :: b.2, h)
def aLd (ty : Nat) (w : Nat) (L : aL) (h : aH) (pc : Nat) (S : List Value) (i : Nat) : Option (Nat × aL × List Value × aH) := match ty, aL_get L i with
  | 0, some (.int x) => some (pc + w, L, .int x :: S, h)
  | 1, some (.long x) => some (pc + w, L, .long x :: S, h)
  | 2, some (.ref x) => some (pc + w, L, .ref x :: S, h)
  | 2, some (.retAddr x) => some (pc + w, L, .retAddr x :: S, h)
  | _, _ => none
def aStI (ml w : Nat) (L : aL) (h : aH) (pc : Nat) (S : List Value) (i : Nat) : Option (Nat × aL × List Value × aH) := if i < ml then (pI S).bind fun a => some (pc + w, aL_set L i (.int a.1), a.2, h) else none
def aStR (ml w : Nat) (L : aL) (h : aH) (pc : Nat) (S : List Value) (i : Nat) : Option (Nat × aL × List Value × aH) := if i < ml then (pR S).bind fun a => some (pc + w, aL_set L i (.ref a.1), a.2, h) else none
def aStJ (ml w : Nat) (L : aL) (h : aH) (pc : Nat) (S : List Value) (i : Nat) : Option (Nat × aL × List Value × aH) := if i + 1 < ml then (pJ S).bind fun a => some (pc + w, aL_set2 L i (.long a.1), a.2, h) else none
/-- a row's cell: of kind t, n numbers f -/
def aArI (h : aH) (t a : Nat) : Option (Nat × (Nat → Int32)) := match h.1[a]? with
  | some (.inl (t', n, .inl f)) => if t' = t then some (n, f) else none
  | _ => none
def aArR (h : aH) (a : Nat) : Option (Nat × Nat × (Nat → Option Nat)) := match h.1[a]? with
  | some (.inl (t, n, .inr (.inr (.inr (.inr f))))) => some (t, n, f)
  | _ => none
def aObj (h : aH) (a : Nat) : Option (Nat × List Value) := match h.1[a]? with
  | some (.inr o) => some o
  | _ => none
theorem aArI_eq {h : aH} {t a n : Nat} {f : Nat → Int32} (e : aArI h t a = some (n, f)) : h.1[a]? = some (.inl (t, n, .inl f)) := by
  unfold aArI at e; split at e
  · next t' n' f' q =>
    split at e
    · next ht => cases e; rw [q, ht]
    · cases e
  · cases e
theorem aArR_eq {h : aH} {t a n : Nat} {f : Nat → Option Nat} (e : aArR h a = some (t, n, f)) : h.1[a]? = some (.inl (t, n, .inr (.inr (.inr (.inr f))))) := by
  unfold aArR at e; split at e
  · next q => cases e; exact q
  · cases e
theorem aObj_eq {h : aH} {a : Nat} {o : Nat × List Value} (e : aObj h a = some o) : h.1[a]? = some (.inr o) := by
  unfold aObj at e; split at e
  · next q => cases e; exact q
  · cases e
def aIn (i : Int32) (n : Nat) : Bool := decide (¬ (i < 0 ∨ n ≤ i.toNatClampNeg))
theorem aIn_eq {i : Int32} {n : Nat} (h : aIn i n = true) : vp_in i n := of_decide_eq_true (p := ¬ (i < 0 ∨ n ≤ i.toNatClampNeg)) h
theorem aIn_of {i : Int32} {n : Nat} (h : vp_in i n) : aIn i n = true := decide_eq_true (p := ¬ (i < 0 ∨ n ≤ i.toNatClampNeg)) h
/-- which value a field of a type may take -/
def aFit (v : Value) (ty : FieldType) : Bool := match v, ty with
  | .int _, .int => true
  | .ref _, .object _ => true
  | .ref _, .array _ => true
  | _, _ => false
def aDef (c : Nat) : List Value := match c with
  | 0 => [.null, .int 0]
  | 1 => [.int 0, .int 0, .int 0, .int 0, .int 0, .null]
  | 2 => [.null, .null, .int 0, .null, .null]
  | 3 => [.int 0, .int 0, .int 0, .null, .int 0]
  | 4 => [.int 0, .int 0, .int 0, .int 0, .null, .null]
  | 5 => [.null]
  | 6 => [.null, .int 0, .int 0]
  | 7 => [.int 0, .int 0, .int 0, .int 0, .int 0, .null, .null, .null, .null]
  | 8 => [.null, .int 0, .int 0]
  | 9 => [.int 0, .int 0, .int 0, .int 0, .int 0, .int 0, .int 0]
  | 10 => [.int 0, .null, .null]
  | 11 => [.null, .null, .null, .null, .null, .null, .null, .null, .null, .null, .null, .null, .null]
  | _ => [.null, .null, .null, .null, .null, .null, .null, .null, .null, .null, .int 0, .int 0, .null, .null, .null, .int 0, .int 0, .int 0, .int 0, .int 0, .null, .null, .null, .int 0, .int 0, .int 0, .int 0, .null, .null, .int 0, .null, .int 0, .null, .null, .null, .null, .null, .int 0, .null, .null, .null, .null, .null, .null, .null, .null, .null, .null, .null, .null, .null, .null, .null, .null]
def aFin (c j : Nat) : Bool := match vwCl[c]? with
  | some r => (r.2.1 j).2.2.2
  | none => true
def aEl (t : Nat) : Option Nat := match t with
  | 2 => some 1
  | 3 => some 9
  | 4 => some 6
  | _ => none
def aElK (c : Nat) : Option Nat := match c with
  | 1 => some 2
  | 9 => some 3
  | 6 => some 4
  | _ => none
/-- one instruction that is no call and no return -/
def aOne (X : aX) (m : aM) (i : Instr) (len pc : Nat) (L : aL) (S : List Value) (h : aH) : Option (Nat × aL × List Value × aH) := match i with
  | .iconst n => if len = 1 then some (pc + 1, L, .int (Int32.ofInt n) :: S, h) else none
  | .bipush n => if len = 2 then some (pc + 2, L, .int (Int8.ofInt n).toInt32 :: S, h) else none
  | .sipush n => if len = 3 then some (pc + 3, L, .int (Int16.ofInt n).toInt32 :: S, h) else none
  | .lconst n => if len = 1 then some (pc + 1, L, .long (Int64.ofNat (n : Nat)) :: S, h) else none
  | .ldc ix => if len = 2 then (aCst (am_k m) ix).bind fun v => some (pc + 2, L, .int v :: S, h) else none
  | .ldc_w ix => if len = 3 then (aCst (am_k m) ix).bind fun v => some (pc + 3, L, .int v :: S, h) else none
  | .ldc2_w ix => if len = 3 then (aCsL (am_k m) ix).bind fun v => some (pc + 3, L, .long v :: S, h) else none
  | .iload i => if len = 2 then aLd 0 2 L h pc S i else none
  | .iload_n i => if len = 1 then aLd 0 1 L h pc S i else none
  | .lload i => if len = 2 then aLd 1 2 L h pc S i else none
  | .lload_n i => if len = 1 then aLd 1 1 L h pc S i else none
  | .aload i => if len = 2 then aLd 2 2 L h pc S i else none
  | .aload_n i => if len = 1 then aLd 2 1 L h pc S i else none
  | .istore i => if len = 2 then aStI (am_ml m) 2 L h pc S i else none
  | .istore_n i => if len = 1 then aStI (am_ml m) 1 L h pc S i else none
  | .lstore i => if len = 2 then aStJ (am_ml m) 2 L h pc S i else none
  | .lstore_n i => if len = 1 then aStJ (am_ml m) 1 L h pc S i else none
  | .astore i => if len = 2 then aStR (am_ml m) 2 L h pc S i else none
  | .astore_n i => if len = 1 then aStR (am_ml m) 1 L h pc S i else none
  | .iinc i n => if len = 3 ∧ i < am_ml m then (match aL_get L i with
    | some (.int x) => some (pc + 3, aL_set L i (.int (x + Int32.ofInt n)), S, h)
    | _ => none) else none
  | .dup => if len = 1 then (pV S).bind fun a => some (pc + 1, L, a.1 :: a.1 :: a.2, h) else none
  | .dup2 => if len = 1 then (pV S).bind fun a => (pV a.2).bind fun b => some (pc + 1, L, a.1 :: b.1 :: a.1 :: b.1 :: b.2, h) else none
  | .pop => if len = 1 then (pV S).bind fun a => some (pc + 1, L, a.2, h) else none
  | .iadd => if len = 1 then a2i L h pc S (fun x y => some (x + y)) else none
  | .isub => if len = 1 then a2i L h pc S (fun x y => some (x - y)) else none
  | .imul => if len = 1 then a2i L h pc S (fun x y => some (x * y)) else none
  | .iand => if len = 1 then a2i L h pc S (fun x y => some (x &&& y)) else none
  | .ior => if len = 1 then a2i L h pc S (fun x y => some (x ||| y)) else none
  | .ixor => if len = 1 then a2i L h pc S (fun x y => some (x ^^^ y)) else none
  | .ishl => if len = 1 then a2i L h pc S (fun x y => some (x <<< (y &&& 31))) else none
  | .ishr => if len = 1 then a2i L h pc S (fun x y => some (x >>> (y &&& 31))) else none
  | .iushr => if len = 1 then a2i L h pc S (fun x y => some ((x.toUInt32 >>> (y.toUInt32 &&& Int32.toUInt32 31)).toInt32)) else none
  | .idiv => if len = 1 then a2i L h pc S (fun x y => if y = 0 then none else some (x / y)) else none
  | .irem => if len = 1 then a2i L h pc S (fun x y => if y = 0 then none else some (x - x / y * y)) else none
  | .ineg => if len = 1 then a1i L h pc S (fun x => .int (-x)) else none
  | .i2b => if len = 1 then a1i L h pc S (fun x => .int x.toInt8.toInt32) else none
  | .i2s => if len = 1 then a1i L h pc S (fun x => .int x.toInt16.toInt32) else none
  | .i2l => if len = 1 then a1i L h pc S (fun x => .long x.toInt64) else none
  | .l2i => if len = 1 then (pJ S).bind fun a => some (pc + 1, L, .int a.1.toInt32 :: a.2, h) else none
  | .ladd => if len = 1 then a2j L h pc S (fun x y => .long (x + y)) else none
  | .lmul => if len = 1 then a2j L h pc S (fun x y => .long (x * y)) else none
  | .land => if len = 1 then a2j L h pc S (fun x y => .long (x &&& y)) else none
  | .lor => if len = 1 then a2j L h pc S (fun x y => .long (x ||| y)) else none
  | .lcmp => if len = 1 then a2j L h pc S (fun x y => .int (lg_cmp x y)) else none
  | .lshl => if len = 1 then a2s L h pc S (fun x y => x <<< (y.toInt64 &&& 63)) else none
  | .lshr => if len = 1 then a2s L h pc S (fun x y => x >>> (y.toInt64 &&& 63)) else none
  | .lushr => if len = 1 then a2s L h pc S (fun x y => (x.toUInt64 >>> (y.toInt64.toUInt64 &&& Int64.toUInt64 63)).toInt64) else none
  | .ifCond c off => if len = 3 then (pI S).bind fun a => (aTgt pc off).bind fun t => some (if aC2 c a.1 0 = true then t else pc + 3, L, a.2, h) else none
  | .if_icmp c off => if len = 3 then (pI S).bind fun a => (pI a.2).bind fun b => (aTgt pc off).bind fun t => some (if aC2 c b.1 a.1 = true then t else pc + 3, L, b.2, h) else none
  | .goto off => if len = 3 then (aTgt pc off).bind fun t => some (t, L, S, h) else none
  | .tableswitch d lo hi offs => (pI S).bind fun a => if a.1.toInt < lo ∨ hi < a.1.toInt then (aTgt pc d).bind fun t => some (t, L, a.2, h) else (offs[(a.1.toInt - lo).toNat]?).bind fun off => (aTgt pc off).bind fun t => some (t, L, a.2, h)
  | .getfield ix => if len = 3 then (pR S).bind fun a => (aFld (am_k m) ix).bind fun f => (aObj h a.1).bind fun o => if o.1 = f.1 then (o.2[f.2]?).bind fun v => some (pc + 3, L, v :: a.2, h) else none else none
  | .putfield ix => if len = 3 then (pV S).bind fun v => (pR v.2).bind fun a => (aFld (am_k m) ix).bind fun f => (aObj h a.1).bind fun o => if o.1 = f.1 ∧ f.2 < o.2.length ∧ aFit v.1 (aTy f.1 f.2) = true ∧ (aFin f.1 f.2 = true → (am_nm m).name = "<init>" ∧ am_k m = f.1) then some (pc + 3, L, a.2, (h.1.set a.1 (.inr (o.1, o.2.set f.2 v.1)), h.2)) else none else none
  | .getstatic ix => if len = 3 ∧ aSta (am_k m) ix = true then some (pc + 3, L, .retAddr 1 :: S, h) else none
  | .iaload => if len = 1 then (match S with
    | .int i :: .ref a :: S => (aArI h 0 a).bind fun r => if aIn i r.1 = true then some (pc + 1, L, .int (r.2 i.toNatClampNeg) :: S, h) else none
    | .int i :: .retAddr z :: S => if aIn i (X (min z 1)).1 = true then some (pc + 1, L, .int ((X (min z 1)).2 i.toNatClampNeg) :: S, h) else none
    | _ => none) else none
  | .baload => if len = 1 then (pI S).bind fun i => (pR i.2).bind fun a => (aArI h 1 a.1).bind fun r => if aIn i.1 r.1 = true then some (pc + 1, L, .int (r.2 i.1.toNatClampNeg) :: a.2, h) else none else none
  | .aaload => if len = 1 then (pI S).bind fun i => (pR i.2).bind fun a => (aArR h a.1).bind fun r => if aIn i.1 r.2.1 = true ∧ 2 ≤ r.1 ∧ r.1 < 6 then (r.2.2 i.1.toNatClampNeg).bind fun v => some (pc + 1, L, .ref v :: a.2, h) else none else none
  | .iastore => if len = 1 then (pI S).bind fun x => (pI x.2).bind fun i => (pR i.2).bind fun a => (aArI h 0 a.1).bind fun r => if aIn i.1 r.1 = true then some (pc + 1, L, a.2, (h.1.set a.1 (.inl (0, r.1, .inl (upd r.2 i.1.toNatClampNeg x.1))), h.2)) else none else none
  | .bastore => if len = 1 then (pI S).bind fun x => (pI x.2).bind fun i => (pR i.2).bind fun a => (aArI h 1 a.1).bind fun r => if aIn i.1 r.1 = true then some (pc + 1, L, a.2, (h.1.set a.1 (.inl (1, r.1, .inl (upd r.2 i.1.toNatClampNeg (vp_nar .boolean x.1)))), h.2)) else none else none
  | .aastore => if len = 1 then (pR S).bind fun x => (pI x.2).bind fun i => (pR i.2).bind fun a => (aArR h a.1).bind fun r => (aObj h x.1).bind fun o => if aIn i.1 r.2.1 = true ∧ aEl r.1 = some o.1 then some (pc + 1, L, a.2, (h.1.set a.1 (.inl (r.1, r.2.1, .inr (.inr (.inr (.inr (va_up r.2.2 i.1.toNatClampNeg (some x.1))))))), h.2)) else none else none
  | .arraylength => if len = 1 then (match S with
    | .ref a :: S => (match h.1[a]? with
      | some (.inl (t, x)) => if t < 6 then some (pc + 1, L, .int (Int32.ofNat x.1) :: S, h) else none
      | _ => none)
    | .retAddr z :: S => some (pc + 1, L, .int (Int32.ofNat (X (min z 1)).1) :: S, h)
    | _ => none) else none
  | .new ix => if len = 3 then (aNew (am_k m) ix).bind fun c => some (pc + 3, L, .ref h.1.length :: S, (h.1 ++ [.inr (c, aDef c)], h.2 + (aDef c).length)) else none
  | .newarray t => if len = 2 then (pI S).bind fun n => if n.1 < 0 ∨ 100000 < n.1.toNatClampNeg then none else (match t with
    | .int => some (pc + 2, L, .ref h.1.length :: n.2, (h.1 ++ [.inl (0, n.1.toNatClampNeg, .inl (fun _ => 0))], h.2 + n.1.toNatClampNeg))
    | .boolean => some (pc + 2, L, .ref h.1.length :: n.2, (h.1 ++ [.inl (1, n.1.toNatClampNeg, .inl (fun _ => 0))], h.2 + n.1.toNatClampNeg))
    | _ => none) else none
  | .anewarray ix => if len = 3 then (pI S).bind fun n => if n.1 < 0 ∨ 100000 < n.1.toNatClampNeg then none else (aNew (am_k m) ix).bind fun c => (aElK c).bind fun t => some (pc + 3, L, .ref h.1.length :: n.2, (h.1 ++ [.inl (t, n.1.toNatClampNeg, .inr (.inr (.inr (.inr (fun _ => none)))))], h.2 + n.1.toNatClampNeg)) else none
  | .multianewarray ix d => if len = 4 ∧ d = 2 ∧ am_k m = 0 ∧ ix = 9 then (pI S).bind fun k => (pI k.2).bind fun n => if k.1 < 0 ∨ 100000 < k.1.toNatClampNeg ∨ n.1 < 0 ∨ 100000 < n.1.toNatClampNeg then none else
      some (pc + 4, L, .ref h.1.length :: n.2, ((h.1 ++ [.inl (5, n.1.toNatClampNeg, .inr (.inr (.inr (.inr (fun i => if i < n.1.toNatClampNeg then some (h.1.length + 1 + i) else none)))))]) ++ List.replicate n.1.toNatClampNeg (.inl (0, k.1.toNatClampNeg, .inl (fun _ => 0))), h.2 + (n.1.toNatClampNeg + n.1.toNatClampNeg * k.1.toNatClampNeg))) else none
  | .invokestatic ix => if len = 3 ∧ 1 ≤ am_F m ∧ 21 ≤ am_L m then (aMx (am_k m) ix).bind fun mx => (pI S).bind fun y => (pI y.2).bind fun x => if (x.2.map fun v => v.category).sum ≤ 8 then some (pc + 3, L, .int (if mx = true then (if x.1 < y.1 then y.1 else x.1) else (if y.1 < x.1 then y.1 else x.1)) :: x.2, h) else none else none
  | .invokespecial ix => if len = 3 ∧ (am_k m, ix) ∈ aObl ∧ 1 ≤ am_F m ∧ 20 ≤ am_L m then (pR S).bind fun a => if (a.2.map fun v => v.category).sum ≤ 8 then some (pc + 3, L, a.2, h) else none else none
  | _ => none
/-- a return -/
def aRet (m : aM) (i : Instr) (len : Nat) (S : List Value) : Option (Option Value) := match i with
  | .ireturn => (match S, am_rt m with
    | [.int v], some ty => if len = 1 ∧ narrow ty (.int v) = .int v then some (some (.int v)) else none
    | _, _ => none)
  | .lreturn => (match S, am_rt m with
    | [.long v], some .long => if len = 1 then some (some (.long v)) else none
    | _, _ => none)
  | .return_ => (match S, am_rt m with
    | [], none => if len = 1 then some none else none
    | _, _ => none)
  | _ => none
def aFits (m m2 : aM) (vs rest : List Value) : Bool := decide (am_F m2 + 1 ≤ am_F m ∧ 8 + (am_ml m2 + 11) + am_L m2 ≤ am_L m ∧ (rest.map fun v => v.category).sum ≤ 8 ∧ (lg_sl vs).length ≤ am_ml m2)
/-- a call: the method, its values, what stays on the stack -/
def aCall (m : aM) (i : Instr) (len : Nat) (S : List Value) (h : aH) : Option (aM × List Value × List Value) := match i with
  | .invokestatic ix => (aMth (am_k m) ix).bind fun q => if len = 3 ∧ am_st q.1 = true ∧ am_na q.1 ≤ S.length ∧ aFits m q.1 (S.take (am_na q.1)).reverse (S.drop (am_na q.1)) = true then some (q.1, (S.take (am_na q.1)).reverse, S.drop (am_na q.1)) else none
  | .invokevirtual ix => (aMth (am_k m) ix).bind fun q => if len = 3 ∧ am_st q.1 = false ∧ (am_nm q.1).name ≠ "<init>" ∧ am_na q.1 ≤ S.length then (match S.drop (am_na q.1) with
    | .ref b :: rest => (aObj h b).bind fun o => if o.1 = am_k q.1 ∧ aFits m q.1 (.ref b :: (S.take (am_na q.1)).reverse) rest = true then some (q.1, .ref b :: (S.take (am_na q.1)).reverse, rest) else none
    | _ => none) else none
  | .invokespecial ix => (aMth (am_k m) ix).bind fun q => if len = 3 ∧ am_st q.1 = false ∧ (am_nm q.1).name = "<init>" ∧ am_na q.1 ≤ S.length then (match S.drop (am_na q.1) with
    | .ref b :: rest => if aFits m q.1 (.ref b :: (S.take (am_na q.1)).reverse) rest = true then some (q.1, .ref b :: (S.take (am_na q.1)).reverse, rest) else none
    | _ => none) else none
  | _ => none
/-- THE SMALL MACHINE -/
def ev (X : aX) : Nat → aM → Nat → aL → List Value → aH → Option (Option Value × aH)
  | 0, _, _, _, _, _ => none
  | n + 1, m, pc, L, S, h => match decode (am_cd m) pc with
    | .ok (i, len) => (match aRet m i len S with
      | some r => some (r, h)
      | none => (match aCall m i len S h with
        | some (m2, vs, S') => (match ev X n m2 0 (lv_args 0 vs) [] h with
          | some (r, h1) => ev X n m (pc + 3) L (r.toList ++ S') h1
          | none => none)
        | none => (match aOne X m i len pc L S h with
          | some (pc', L', S', h') => ev X n m pc' L' S' h'
          | none => none)))
    | _ => none
theorem ev_succ {X : aX} (n : Nat) (m : aM) (pc : Nat) (L : aL) (S : List Value) (h : aH) : ev X (n + 1) m pc L S h = (match decode (am_cd m) pc with
    | .ok (i, len) => (match aRet m i len S with
      | some r => some (r, h)
      | none => (match aCall m i len S h with
        | some (m2, vs, S') => (match ev X n m2 0 (lv_args 0 vs) [] h with
          | some (r, h1) => ev X n m (pc + 3) L (r.toList ++ S') h1
          | none => none)
        | none => (match aOne X m i len pc L S h with
          | some (pc', L', S', h') => ev X n m pc' L' S' h'
          | none => none)))
    | _ => none) := rfl
theorem ev_mono {X : aX} : ∀ (n : Nat) {m : aM} {pc : Nat} {L : aL} {S : List Value} {h : aH} {r : Option Value} {h' : aH}, ev X n m pc L S h = some (r, h') → ∀ k, ev X (n + k) m pc L S h = some (r, h')
  | 0, m, pc, L, S, h, r, h', e, k => by cases e
  | n + 1, m, pc, L, S, h, r, h', e, k => by
    rw [show n + 1 + k = (n + k) + 1 by omega, ev_succ]
    rw [ev_succ] at e
    split at e
    · next i len hd =>
      try rw [hd]
      try dsimp only
      split at e
      · next r1 hr => (try rw [hr]); exact e
      · next hr =>
        try rw [hr]
        try dsimp only
        split at e
        · next m2 vs S' hc =>
          try rw [hc]
          try dsimp only
          split at e
          · next r1 h1 he =>
            rw [ev_mono n he k]
            exact ev_mono n e k
          · cases e
        · next hc =>
          try rw [hc]
          try dsimp only
          split at e
          · next pc' L' S' h2 ho =>
            try rw [ho]
            exact ev_mono n e k
          · cases e
    · cases e

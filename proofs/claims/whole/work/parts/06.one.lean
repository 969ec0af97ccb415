section ONE
variable {D : va_G} {κ : Nat → ClassId} {B b o : Nat} {X : aX} {m : aM} {pc pc' : Nat} {L L' : aL} {S S' : List Value} {h h2 : aH}
def aRw (m : aM) (P : Program → Launch → Env → Room → State → MethodId → Array Value → List Frame → Method → Code → Heap → List Loc → Nat → Nat → Array Slot → (State → Prop) → Prop) : Prop :=
  ∀ (p : Program) (l : Launch) (e : Env) (R : Room) (s : State) (mi : MethodId) (args : Array Value) (below : List Frame) (meth : Method) (c : Code) (H : Heap) (locs : List Loc) (cells slots : Nat) (ls : Array Slot) (Q : State → Prop), aCx p s mi args meth c m → P p l e R s mi args below meth c H locs cells slots ls Q
theorem a2i_stp {f : Int32 → Int32 → Option Int32} (hr : aRw m (fun p l e R s mi args below meth c H locs cells slots ls Q => ∀ (x y v : Int32) (rest : List Value), f x y = some v → W p l e R s mi args below meth c H locs cells slots Q (F0 mi (pc + 1) ls (.int v :: rest)) → W p l e R s mi args below meth c H locs cells slots Q (F0 mi pc ls (.int y :: .int x :: rest))))
    (e : a2i L h pc S f = some (pc', L', S', h2)) : aStp D κ B b o X m pc L S h pc' L' S' h2 := by
  obtain ⟨⟨y, S1⟩, e1, e⟩ := Option.bind_eq_some_iff.mp e
  obtain ⟨⟨x, S2⟩, e2, e⟩ := Option.bind_eq_some_iff.mp e
  obtain ⟨v, e3, e⟩ := Option.bind_eq_some_iff.mp e
  cases e
  obtain rfl := pI_eq e1
  obtain rfl := pI_eq e2
  exact aStp.pure (fun p l e R s mi args below meth c H locs cells slots ls Q hC _ _ _ _ _ _ _ _ K => hr p l e R s mi args below meth c H locs cells slots ls Q hC x y v _ e3 K)
theorem a1i_stp {f : Int32 → Value} (hr : aRw m (fun p l e R s mi args below meth c H locs cells slots ls Q => ∀ (x : Int32) (rest : List Value), W p l e R s mi args below meth c H locs cells slots Q (F0 mi (pc + 1) ls (rv B b o (f x) :: rest)) → W p l e R s mi args below meth c H locs cells slots Q (F0 mi pc ls (.int x :: rest))))
    (e : a1i L h pc S f = some (pc', L', S', h2)) : aStp D κ B b o X m pc L S h pc' L' S' h2 := by
  obtain ⟨⟨y, S1⟩, e1, e⟩ := Option.bind_eq_some_iff.mp e
  cases e
  obtain rfl := pI_eq e1
  exact aStp.pure (fun p l e R s mi args below meth c H locs cells slots ls Q hC _ _ _ _ _ _ _ _ K => hr p l e R s mi args below meth c H locs cells slots ls Q hC y _ K)
theorem a2j_stp {f : Int64 → Int64 → Value} (hr : aRw m (fun p l e R s mi args below meth c H locs cells slots ls Q => ∀ (x y : Int64) (rest : List Value), W p l e R s mi args below meth c H locs cells slots Q (F0 mi (pc + 1) ls (rv B b o (f x y) :: rest)) → W p l e R s mi args below meth c H locs cells slots Q (F0 mi pc ls (.long y :: .long x :: rest))))
    (e : a2j L h pc S f = some (pc', L', S', h2)) : aStp D κ B b o X m pc L S h pc' L' S' h2 := by
  obtain ⟨⟨y, S1⟩, e1, e⟩ := Option.bind_eq_some_iff.mp e
  obtain ⟨⟨x, S2⟩, e2, e⟩ := Option.bind_eq_some_iff.mp e
  cases e
  obtain rfl := pJ_eq e1
  obtain rfl := pJ_eq e2
  exact aStp.pure (fun p l e R s mi args below meth c H locs cells slots ls Q hC _ _ _ _ _ _ _ _ K => hr p l e R s mi args below meth c H locs cells slots ls Q hC x y _ K)
theorem a2s_stp {f : Int64 → Int32 → Int64} (hr : aRw m (fun p l e R s mi args below meth c H locs cells slots ls Q => ∀ (x : Int64) (y : Int32) (rest : List Value), W p l e R s mi args below meth c H locs cells slots Q (F0 mi (pc + 1) ls (.long (f x y) :: rest)) → W p l e R s mi args below meth c H locs cells slots Q (F0 mi pc ls (.int y :: .long x :: rest))))
    (e : a2s L h pc S f = some (pc', L', S', h2)) : aStp D κ B b o X m pc L S h pc' L' S' h2 := by
  obtain ⟨⟨y, S1⟩, e1, e⟩ := Option.bind_eq_some_iff.mp e
  obtain ⟨⟨x, S2⟩, e2, e⟩ := Option.bind_eq_some_iff.mp e
  cases e
  obtain rfl := pI_eq e1
  obtain rfl := pJ_eq e2
  exact aStp.pure (fun p l e R s mi args below meth c H locs cells slots ls Q hC _ _ _ _ _ _ _ _ K => hr p l e R s mi args below meth c H locs cells slots ls Q hC x y _ K)
theorem aLd_stp {ty w i : Nat}
    (h0 : ty = 0 → aRw m (fun p l e R s mi args below meth c H locs cells slots ls Q => ∀ (x : Int32) (rest : List Value), ls[i]? = some (.val (.int x)) → W p l e R s mi args below meth c H locs cells slots Q (F0 mi (pc + w) ls (.int x :: rest)) → W p l e R s mi args below meth c H locs cells slots Q (F0 mi pc ls rest)))
    (h1 : ty = 1 → aRw m (fun p l e R s mi args below meth c H locs cells slots ls Q => ∀ (x : Int64) (rest : List Value), ls[i]? = some (.val (.long x)) → W p l e R s mi args below meth c H locs cells slots Q (F0 mi (pc + w) ls (.long x :: rest)) → W p l e R s mi args below meth c H locs cells slots Q (F0 mi pc ls rest)))
    (hr : ty = 2 → aRw m (fun p l e R s mi args below meth c H locs cells slots ls Q => ∀ (x : Nat) (rest : List Value), ls[i]? = some (.val (.ref x)) → W p l e R s mi args below meth c H locs cells slots Q (F0 mi (pc + w) ls (.ref x :: rest)) → W p l e R s mi args below meth c H locs cells slots Q (F0 mi pc ls rest)))
    (e : aLd ty w L h pc S i = some (pc', L', S', h2)) : aStp D κ B b o X m pc L S h pc' L' S' h2 := by
  unfold aLd at e
  split at e
  · next x hg => cases e; exact aStp.pure (fun p l e R s mi args below meth c H locs cells slots ls Q hC _ _ _ _ _ _ _ hl K => h0 rfl p l e R s mi args below meth c H locs cells slots ls Q hC x _ (aL_at hl hg) K)
  · next x hg => cases e; exact aStp.pure (fun p l e R s mi args below meth c H locs cells slots ls Q hC _ _ _ _ _ _ _ hl K => h1 rfl p l e R s mi args below meth c H locs cells slots ls Q hC x _ (aL_at hl hg) K)
  · next x hg => cases e; exact aStp.pure (fun p l e R s mi args below meth c H locs cells slots ls Q hC _ _ _ _ _ _ _ hl K => hr rfl p l e R s mi args below meth c H locs cells slots ls Q hC (B + x) _ (aL_at hl hg) K)
  · next x hg =>
    cases e
    cases x with
    | zero => exact aStp.pure (fun p l e R s mi args below meth c H locs cells slots ls Q hC _ _ _ _ _ _ _ hl K => hr rfl p l e R s mi args below meth c H locs cells slots ls Q hC b _ (aL_at hl hg) K)
    | succ x => exact aStp.pure (fun p l e R s mi args below meth c H locs cells slots ls Q hC _ _ _ _ _ _ _ hl K => hr rfl p l e R s mi args below meth c H locs cells slots ls Q hC o _ (aL_at hl hg) K)
  · cases e
theorem aStI_stp {w i : Nat} (hr : aRw m (fun p l e R s mi args below meth c H locs cells slots ls Q => ∀ (x : Int32) (rest : List Value) (lv lv' : List (Nat × Value)), lv_has ls (am_ml m) lv → i < am_ml m → (i, Value.int x) :: lv.filter (fun q => !(q.1 == i) && !(q.1 + 1 == i && q.2.category == 2)) = lv' → (∀ ls' : Array Slot, lv_has ls' (am_ml m) lv' → W p l e R s mi args below meth c H locs cells slots Q (F0 mi (pc + w) ls' rest)) → W p l e R s mi args below meth c H locs cells slots Q (F0 mi pc ls (.int x :: rest))))
    (e : aStI (am_ml m) w L h pc S i = some (pc', L', S', h2)) : aStp D κ B b o X m pc L S h pc' L' S' h2 := by
  unfold aStI at e
  split at e
  · next hi =>
    obtain ⟨⟨y, S1⟩, e1, e⟩ := Option.bind_eq_some_iff.mp e
    cases e
    obtain rfl := pI_eq e1
    exact aStp.loc (fun p l e R s mi args below meth c H locs cells slots ls Q hC hl K => hr p l e R s mi args below meth c H locs cells slots ls Q hC y _ _ _ hl hi (aL_set_map (v := .int y)) K)
  · cases e
theorem aStR_stp {w i : Nat} (hr : aRw m (fun p l e R s mi args below meth c H locs cells slots ls Q => ∀ (x : Nat) (rest : List Value) (lv lv' : List (Nat × Value)), lv_has ls (am_ml m) lv → i < am_ml m → (i, Value.ref x) :: lv.filter (fun q => !(q.1 == i) && !(q.1 + 1 == i && q.2.category == 2)) = lv' → (∀ ls' : Array Slot, lv_has ls' (am_ml m) lv' → W p l e R s mi args below meth c H locs cells slots Q (F0 mi (pc + w) ls' rest)) → W p l e R s mi args below meth c H locs cells slots Q (F0 mi pc ls (.ref x :: rest))))
    (e : aStR (am_ml m) w L h pc S i = some (pc', L', S', h2)) : aStp D κ B b o X m pc L S h pc' L' S' h2 := by
  unfold aStR at e
  split at e
  · next hi =>
    obtain ⟨⟨y, S1⟩, e1, e⟩ := Option.bind_eq_some_iff.mp e
    cases e
    obtain rfl := pR_eq e1
    exact aStp.loc (fun p l e R s mi args below meth c H locs cells slots ls Q hC hl K => hr p l e R s mi args below meth c H locs cells slots ls Q hC (B + y) _ _ _ hl hi (aL_set_map (v := .ref y)) K)
  · cases e
theorem aStJ_stp {w i : Nat} (hr : aRw m (fun p l e R s mi args below meth c H locs cells slots ls Q => ∀ (x : Int64) (rest : List Value) (lv lv' : List (Nat × Value)), lv_has ls (am_ml m) lv → i + 1 < am_ml m → (i, Value.long x) :: lv.filter (fun q => !(q.1 == i) && (!(q.1 == i + 1) && !(q.1 + 1 == i && q.2.category == 2))) = lv' → (∀ ls' : Array Slot, lv_has ls' (am_ml m) lv' → W p l e R s mi args below meth c H locs cells slots Q (F0 mi (pc + w) ls' rest)) → W p l e R s mi args below meth c H locs cells slots Q (F0 mi pc ls (.long x :: rest))))
    (e : aStJ (am_ml m) w L h pc S i = some (pc', L', S', h2)) : aStp D κ B b o X m pc L S h pc' L' S' h2 := by
  unfold aStJ at e
  split at e
  · next hi =>
    obtain ⟨⟨y, S1⟩, e1, e⟩ := Option.bind_eq_some_iff.mp e
    cases e
    obtain rfl := pJ_eq e1
    exact aStp.loc (fun p l e R s mi args below meth c H locs cells slots ls Q hC hl K => hr p l e R s mi args below meth c H locs cells slots ls Q hC y _ _ _ hl hi (aL_set2_map (v := .long y)) K)
  · cases e
end ONE

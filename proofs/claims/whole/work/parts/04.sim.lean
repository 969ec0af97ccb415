/-! WHAT THE SMALL MACHINE DOES, THE MACHINE DOES -/
def aAOI (U : State) : Prop := (Cond.arrayOver (.array .int)).before #[] U = true
theorem aAOI.moved {u U : State} (hvm : u.vm.Alike U.vm) (h : aAOI u) : aAOI U := by
  have h1 : (Cond.arrayOver (.array .int)).before #[] (u.setVm U.vm) = true := by rw [Cond.arrayOver_setVmC hvm]; exact h
  exact h1
theorem aNst_warm {s U : State} (hW : s.WarmedH U.vm) (h : ∀ w ∈ aNst, va_Nw w s) : ∀ w ∈ aNst, va_Nw w U := by
  intro w hw
  have h1 := h w hw
  simp only [aNst, List.mem_cons, List.not_mem_nil, or_false] at hw
  rcases hw with rfl | rfl | rfl | rfl | rfl | rfl | rfl | rfl | rfl | rfl | rfl | rfl | rfl <;> exact va_Nw.warmM hW h1
section SIMDEFS
variable (D : va_G) (κ : Nat → ClassId) (B b o : Nat) (X : aX)
def rv (v : Value) : Value := match v with
  | .ref k => .ref (B + k)
  | .retAddr 0 => .ref b
  | .retAddr (_ + 1) => .ref o
  | v => v
def rl (q : Nat × Value) : Nat × Value := (q.1, rv B b o q.2)
def rA (a : vp_A) : vp_A := match a with
  | (n, .inr (.inr (.inr (.inr f)))) => (n, .inr (.inr (.inr (.inr (fun i => (f i).map (fun k => B + k))))))
  | a => a
def rE (e : aC) : va_E := match e with
  | .inl (t, a) => .inl (κ t, rA B a)
  | .inr (c, fs) => .inr (c, fs.map (rv B b o))
def wd (h : List aC) : va_W := h.mapIdx (fun k e => (B + k, rE κ B b o e))
def aTys : List (ClassId × FieldType) := [(κ 0, .int), (κ 1, .boolean), (κ 2, .object RX1), (κ 3, .object RX9), (κ 4, .object RX6), (κ 5, .array .int)]
/-- what holds of every state of the run -/
def aEnv (s : State) : Prop := va_K D vwCl (aTys κ) s ∧ va_T .int b (X 0).1 (fun j => .int ((X 0).2 j)) (fun q => B ≤ q) s s.heap ∧ b < B ∧ va_T .int o (X 1).1 (fun j => .int ((X 1).2 j)) (fun q => B ≤ q) s s.heap ∧ o < B ∧ B ≤ s.heap.size ∧ va_Z "BargainHall$Groups" "ORDERS" "[I" (.ref o) (fun q => B ≤ q) s s.heap ∧ (∀ w ∈ aNst, va_Nw w s) ∧ va_AO RX1 s ∧ va_AO RX9 s ∧ va_AO RX6 s ∧ aAOI s
def aSt (h : aH) (s : State) : Prop := aEnv D κ B b o X s ∧ va_P D vwCl (wd κ B b o h.1) s.heap ∧ s.heap.size = B + h.1.length
def aQ (r : Option Value) (h' : aH) : Array Value → State → Outcome → State → Prop := fun _ st oc t => oc = .returned (r.map (rv B b o)) ∧ aSt D κ B b o X h' t ∧ va_F (fun q => B ≤ q) st t
def aCx (p : Program) (s : State) (mi : MethodId) (args : Array Value) (meth : Method) (c : Code) (m : aM) : Prop := p.tables.exec = Jvm.exec ∧ c.code = am_cd m ∧ meth.sig.returnType = am_rt m ∧ c.maxLocals = am_ml m ∧ meth.locks = false ∧ s.vm.findClass (aR (am_k m)) = some mi.cls ∧ (∀ w ∈ aTbl, w.before args s = true) ∧ ((am_nm m).name = "<init>" → meth.name = "<init>")
def aSim (m : aM) (pc : Nat) (L : aL) (S : List Value) (h : aH) (r : Option Value) (h' : aH) : Prop :=
  ∀ (p : Program) (l : Launch) (e : Env) (R : Room) (s : State) (mi : MethodId) (args : Array Value) (below : List Frame) (meth : Method) (c : Code) (H : Heap) (locs : List Loc) (cells slots : Nat) (ls : Array Slot),
    aCx p s mi args meth c m → aEnv D κ B b o X s → am_F m ≤ R.frames → am_L m ≤ R.locals → cells + (h'.1.length - h.1.length) ≤ R.cells → slots + (h'.2 - h.2) ≤ R.slots →
    va_P D vwCl (wd κ B b o h.1) H → H.size = B + h.1.length → H.size = s.heap.size + cells → va_S (fun q => B ≤ q) s.heap H locs → lv_has ls (am_ml m) (L.map (rl B b o)) →
    W p l e R s mi args below meth c H locs cells slots (MQ below (aQ D κ B b o X r h') args s (cells + (h'.1.length - h.1.length)) (slots + (h'.2 - h.2)) (fun q => B ≤ q)) (F0 mi pc ls (S.map (rv B b o)))
end SIMDEFS
theorem rv_cat {B b o : Nat} (v : Value) : (rv B b o v).category = v.category := by
  cases v with
  | retAddr z => cases z <;> rfl
  | _ => rfl
section WDROWS
variable {κ : Nat → ClassId} {B b o : Nat}
theorem wd_len (h : List aC) : (wd κ B b o h).length = h.length := by simp [wd]
theorem wd_get {h : List aC} {k : Nat} {e : aC} (hk : h[k]? = some e) : (wd κ B b o h)[k]? = some (B + k, rE κ B b o e) := by simp [wd, hk]
theorem wd_inv {h : List aC} {k : Nat} {q : Nat × va_E} (hk : (wd κ B b o h)[k]? = some q) : q.1 = B + k ∧ k < h.length := by
  have hl := (List.getElem?_eq_some_iff.mp hk).1
  rw [wd_len] at hl
  have := wd_get (κ := κ) (B := B) (b := b) (o := o) (List.getElem?_eq_getElem hl)
  rw [hk] at this
  cases this
  exact ⟨rfl, hl⟩
theorem wd_set {h : List aC} {k : Nat} {e : aC} : (wd κ B b o h).set k (B + k, rE κ B b o e) = wd κ B b o (h.set k e) := by
  apply List.ext_getElem?
  intro i
  simp only [wd, List.getElem?_set, List.getElem?_mapIdx, List.length_mapIdx]
  by_cases hi : k = i
  · subst hi
    by_cases hl : k < h.length <;> simp [hl]
  · simp [hi]
theorem wd_app {h : List aC} {e : aC} : wd κ B b o (h ++ [e]) = wd κ B b o h ++ [(B + h.length, rE κ B b o e)] := by simp [wd, List.mapIdx_append]
theorem wd_D (h : List aC) : va_D (fun q => B ≤ q) (wd κ B b o h) := by
  refine ⟨fun i j p q hi hj hpq => ?_, fun k q hk => ?_⟩
  · have h1 := (wd_inv hi).1
    have h2 := (wd_inv hj).1
    omega
  · have h1 := (wd_inv hk).1
    omega
end WDROWS
theorem aL_get_mem {L : aL} {i : Nat} {v : Value} (h : aL_get L i = some v) : (i, v) ∈ L := by
  unfold aL_get at h
  cases hf : L.find? (fun q => q.1 == i) with
  | none => rw [hf] at h; cases h
  | some q =>
    rw [hf] at h
    have h1 : q.2 = v := Option.some.inj h
    have h2 : q.1 = i := by have := List.find?_some hf; simpa using this
    have h3 := List.mem_of_find?_eq_some hf
    rw [← h1, ← h2]; exact h3
theorem aL_at {B b o nL : Nat} {ls : Array Slot} {L : aL} {i : Nat} {v : Value} (hl : lv_has ls nL (L.map (rl B b o))) (h : aL_get L i = some v) : ls[i]? = some (.val (rv B b o v)) := hl.2.2 (i, rv B b o v) (List.mem_map.mpr ⟨(i, v), aL_get_mem h, rfl⟩)
theorem aL_set_map {B b o : Nat} {L : aL} {i : Nat} {v : Value} : (i, rv B b o v) :: (L.map (rl B b o)).filter (fun q => !(q.1 == i) && !(q.1 + 1 == i && q.2.category == 2)) = (aL_set L i v).map (rl B b o) := by
  simp only [aL_set, List.map_cons, List.filter_map]
  congr 1
  apply congrArg
  apply List.filter_congr
  intro q _
  simp [rl, rv_cat]
theorem aL_set2_map {B b o : Nat} {L : aL} {i : Nat} {v : Value} : (i, rv B b o v) :: (L.map (rl B b o)).filter (fun q => !(q.1 == i) && (!(q.1 == i + 1) && !(q.1 + 1 == i && q.2.category == 2))) = (aL_set2 L i v).map (rl B b o) := by
  simp only [aL_set2, List.map_cons, List.filter_map]
  congr 1
  apply congrArg
  apply List.filter_congr
  intro q _
  simp [rl, rv_cat]
theorem aTys_at {D : va_G} {κ : Nat → ClassId} {s : State} (hK : va_K D vwCl (aTys κ) s) {t : Nat} (ht : t < 6) : ∃ ty, (aTys κ)[t]? = some (κ t, ty) := by
  match t, ht with
  | 0, _ => exact ⟨_, rfl⟩
  | 1, _ => exact ⟨_, rfl⟩
  | 2, _ => exact ⟨_, rfl⟩
  | 3, _ => exact ⟨_, rfl⟩
  | 4, _ => exact ⟨_, rfl⟩
  | 5, _ => exact ⟨_, rfl⟩
theorem aFit_ok {B b o : Nat} {v : Value} {ty : FieldType} (h : aFit v ty = true) : narrow ty (rv B b o v) = rv B b o v ∧ fits ty (rv B b o v) = true := by
  unfold aFit at h
  split at h
  · exact ⟨rfl, rfl⟩
  · exact ⟨rfl, rfl⟩
  · exact ⟨rfl, rfl⟩
  · cases h
theorem aNst_tab : ∀ w ∈ aNst, w.onTables = true := by decide +kernel
theorem aEnv_moved {D : va_G} {κ : Nat → ClassId} {B b o : Nat} {X : aX} {s U : State} (hW : s.WarmedH U.vm) (hS : va_F (fun q => B ≤ q) s U) (h : aEnv D κ B b o X s) : aEnv D κ B b o X U := by
  obtain ⟨h1, h2, h3, h4, h5, h6, h7, h8, h9, h10, h11, h12⟩ := h
  have hvm := hW.alike
  exact ⟨va_K.moved hvm h1, va_T.moved hvm (h2.kept (fun a ha hA => hS.2 a ha hA)), h3, va_T.moved hvm (h4.kept (fun a ha hA => hS.2 a ha hA)), h5, Nat.le_trans h6 hS.1, va_Z.moved hvm (h7.kept (fun a ha hA => hS.2 a ha hA)), aNst_warm hW h8, h9.moved hvm, h10.moved hvm, h11.moved hvm, h12.moved hvm⟩
theorem aSt_blind {D : va_G} {κ : Nat → ClassId} {B b o : Nat} {X : aX} {h : aH} {U : State} (g : JFrame) (mk : MethodId) (a : Array Value) (q : aSt D κ B b o X h U) : aSt D κ B b o X h (U.calling g mk a) := by
  obtain ⟨⟨h1, h2, h3, h4, h5, h6, h7, h8, h9, h10, h11, h12⟩, hP, hz⟩ := q
  have hvm : U.vm.Alike (U.calling g mk a).vm := Vm.Alike.refl U.vm
  exact ⟨⟨va_K.moved hvm h1, va_T.moved hvm h2, h3, va_T.moved hvm h4, h5, h6, va_Z.moved hvm h7, fun w hw => va_Nw.same (u := U) (aNst_tab w hw) rfl (h8 w hw), h9.moved hvm, h10.moved hvm, h11.moved hvm, h12.moved hvm⟩, hP, hz⟩

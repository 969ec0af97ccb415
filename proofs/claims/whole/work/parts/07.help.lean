section HELP
variable {D : va_G} {κ : Nat → ClassId} {B b o : Nat} {X : aX}
theorem rA_len (a : vp_A) : (rA B a).1 = a.1 := by
  obtain ⟨n, f | f | f | f | f⟩ := a <;> rfl
theorem rE_up {t n : Nat} {f : Nat → Option Nat} {i : Int32} {x : Nat} : rE κ B b o (.inl (t, n, .inr (.inr (.inr (.inr (va_up f i.toNatClampNeg (some x))))))) = .inl (κ t, n, .inr (.inr (.inr (.inr (va_up (fun i => (f i).map (fun k => B + k)) i.toNatClampNeg (some (B + x))))))) := by
  refine congrArg (fun z => (.inl (κ t, n, .inr (.inr (.inr (.inr z)))) : va_E)) (funext fun j => ?_)
  unfold va_up
  split <;> rfl
theorem aCat {l : List Value} {n : Nat} (h : (l.map fun v => v.category).sum ≤ n) : ((l.map (rv B b o)).map fun v => v.category).sum ≤ n := by
  rw [List.map_map]
  have e : ((fun v : Value => v.category) ∘ rv B b o) = (fun v : Value => v.category) := funext fun v => rv_cat v
  rw [e]; exact h
theorem aRoom {m : MethodId} {pc : Nat} {ls : Array Slot} {st l : List Value} (h : (l.map fun v => v.category).sum ≤ 8) : 2 * (F0 m pc ls st).monitorRoom + ((l.map (rv B b o)).map fun v => v.category).sum + 12 ≤ 20 := by
  have := lv_room (m := m) (pc := pc) (ls := ls) (rest := st) (aCat (B := B) (b := b) (o := o) h)
  omega
theorem aEl_ok {t c : Nat} (h : aEl t = some c) : ∃ r : vw_C, vwCl[c]? = some r ∧ (aTys κ)[t]? = some (κ t, .object r.1) := by
  unfold aEl at h
  split at h
  · cases h; exact ⟨_, rfl, rfl⟩
  · cases h; exact ⟨_, rfl, rfl⟩
  · cases h; exact ⟨_, rfl, rfl⟩
  · cases h
theorem aElK_ok {s : State} {t c : Nat} {r : vw_C} (hE : aEnv D κ B b o X s) (h : aElK c = some t) (hr : vwCl[c]? = some r) : va_AO r.1 s ∧ (aTys κ)[t]? = some (κ t, .object r.1) := by
  obtain ⟨-, -, -, -, -, -, -, -, h9, h10, h11, -⟩ := hE
  unfold aElK at h
  split at h
  · cases h; cases hr; exact ⟨h9, rfl⟩
  · cases h; cases hr; exact ⟨h10, rfl⟩
  · cases h; cases hr; exact ⟨h11, rfl⟩
  · cases h
/-- the class of a made row is the one that the tables name -/
theorem aKin {s : State} {t : Nat} {ty : FieldType} {cA : ClassId} (hK : va_K D vwCl (aTys κ) s) (hK1 : va_K D vwCl (aTys κ ++ [(cA, ty)]) s) (ht : (aTys κ)[t]? = some (κ t, ty)) : cA = κ t := by
  have h1 : va_RA s (κ t) ty := (hK.2 t _ ht).2
  have h2 : va_RA s cA ty := (hK1.2 6 (cA, ty) rfl).2
  cases ty with
  | object C =>
    obtain ⟨-, -, -, -, -, q1⟩ := h1
    obtain ⟨-, -, -, -, -, q2⟩ := h2
    exact Option.some.inj (q2.symm.trans q1)
  | _ => exact Option.some.inj (h2.symm.trans h1)
theorem aDef_len {c : Nat} {r : vw_C} (h : vwCl[c]? = some r) : (aDef c).length = r.2.2 := by
  match c, h with
  | 0, h => cases h; rfl
  | 1, h => cases h; rfl
  | 2, h => cases h; rfl
  | 3, h => cases h; rfl
  | 4, h => cases h; rfl
  | 5, h => cases h; rfl
  | 6, h => cases h; rfl
  | 7, h => cases h; rfl
  | 8, h => cases h; rfl
  | 9, h => cases h; rfl
  | 10, h => cases h; rfl
  | 11, h => cases h; rfl
  | 12, h => cases h; rfl
  | _ + 13, h => simp [vwCl] at h
theorem aDef_b : ∀ c, c < 13 → ∀ j, j < (aDef c).length → defaultValue (aTy c j) = vp_V (aDef c) j := by decide +kernel
theorem aDef_n : ∀ c, c < 13 → ∀ v ∈ aDef c, v = .null ∨ v = .int 0 := by decide +kernel
theorem aDef_map {c : Nat} (hc : c < 13) : (aDef c).map (rv B b o) = aDef c := by
  conv => rhs; rw [← List.map_id (aDef c)]
  apply List.map_congr_left
  intro v hv
  rcases aDef_n c hc v hv with rfl | rfl <;> rfl
theorem aDef_ok {c j : Nat} {r : vw_C} (h : vwCl[c]? = some r) (hj : j < r.2.2) : defaultValue (aTy c j) = vp_V ((aDef c).map (rv B b o)) j := by
  have hc : c < 13 := (List.getElem?_eq_some_iff.mp h).1
  rw [aDef_map hc]
  exact aDef_b c hc j (by rw [aDef_len h]; exact hj)
end HELP
section HELP2
variable {p : Program} {l : Launch} {e : Env} {R : Room} {s : State} {m : MethodId} {args : Array Value} {below : List Frame} {meth : Method} {c : Code} {H : Heap} {locs : List Loc} {cells slots : Nat} {Q : State → Prop}
variable {cc : ByteArray} {pc : Nat} {ls : Array Slot} {rest : List Value} {D : va_G} {a : Nat} {tys : List (ClassId × FieldType)} {ws : va_W} {κ : Nat → ClassId} {B b o : Nat}
theorem aald_row (hexec : p.tables.exec = Jvm.exec) (hb : c.code = cc) (hK : va_K D vwCl tys s) (hP : va_P D vwCl ws H) {q0 : Nat} {cA : ClassId} {n v : Nat} {f : Nat → Option Nat} (ha : ws[q0]? = some (a, .inl (cA, n, .inr (.inr (.inr (.inr f)))))) (ht : ∃ ty, ArrOfT s cA ty ∧ ty.isReference = true) {i : Int32} (hin : vp_in i n) (hv : f i.toNatClampNeg = some v) (hdg : decode cc pc = .ok (.aaload, 1))
    (kk : W p l e R s m args below meth c H locs cells slots Q (F0 m (pc + 1) ls (.ref v :: rest))) : W p l e R s m args below meth c H locs cells slots Q (F0 m pc ls (.int i :: .ref a :: rest)) := by
  have hlt : i.toNatClampNeg < n := Nat.not_le.mp fun q => hin (Or.inr q)
  obtain ⟨ty, h1, h2⟩ := ht
  exact W.aald (v := .ref v) (ty := ty) hexec hb (hP q0 _ ha) (h1 n (fun j => va_rf (f j))) h2 (fun q => by cases q) (by show ¬ (i < 0 ∨ (arrV _ _ _).slots.size ≤ _); rw [arrV_size]; exact hin) (by show (arrV _ _ _).slots[_]? = _; rw [arrV_read _ _ hlt, hv]; rfl) rfl rfl hdg kk
theorem aT_ld (hexec : p.tables.exec = Jvm.exec) (hb : c.code = cc) {t N : Nat} {f : Nat → Int32} {A : Nat → Prop} (hT : va_T .int t N (fun j => .int (f j)) A s s.heap) (hS : va_S A s.heap H locs) {i : Int32} (hin : vp_in i N) (hdg : decode cc pc = .ok (.iaload, 1))
    (kk : W p l e R s m args below meth c H locs cells slots Q (F0 m (pc + 1) ls (.int (f i.toNatClampNeg) :: rest))) : W p l e R s m args below meth c H locs cells slots Q (F0 m pc ls (.int i :: .ref t :: rest)) := by
  obtain ⟨cell, h1, h2, h3, h4, h5, h6, h7⟩ := hT
  have hlt : i.toNatClampNeg < N := Nat.not_le.mp fun q => hin (Or.inr q)
  exact W.iald (v := .int (f i.toNatClampNeg)) hexec hb (by rw [hS.2.1 t (Array.getElem?_eq_some_iff.mp h1).1 h7]; exact h1) h2 h3 (fun q => hin (q.imp id (fun z => Nat.le_trans h4 z))) (h6 _ hlt) rfl rfl hdg kk
theorem aT_len (hexec : p.tables.exec = Jvm.exec) (hb : c.code = cc) {t N : Nat} {f : Nat → Value} {A : Nat → Prop} (hT : va_T .int t N f A s s.heap) (hS : va_S A s.heap H locs) (hdg : decode cc pc = .ok (.arraylength, 1))
    (kk : W p l e R s m args below meth c H locs cells slots Q (F0 m (pc + 1) ls (.int (Int32.ofNat N) :: rest))) : W p l e R s m args below meth c H locs cells slots Q (F0 m pc ls (.ref t :: rest)) := by
  obtain ⟨cell, h1, h2, h3, h4, h5, h6, h7⟩ := hT
  exact W.alen (n := Int32.ofNat N) hexec hb (by rw [hS.2.1 t (Array.getElem?_eq_some_iff.mp h1).1 h7]; exact h1) h2 h5 rfl rfl hdg kk
theorem aArR_ref (hK : va_K D vwCl (aTys κ) s) {t : Nat} (ht2 : 2 ≤ t) (ht : t < 6) : ∃ ty, ArrOfT s (κ t) ty ∧ ty.isReference = true := by
  match t, ht2, ht with
  | 2, _, _ => exact ⟨_, (hK.2 2 _ rfl).1, rfl⟩
  | 3, _, _ => exact ⟨_, (hK.2 3 _ rfl).1, rfl⟩
  | 4, _, _ => exact ⟨_, (hK.2 4 _ rfl).1, rfl⟩
  | 5, _, _ => exact ⟨_, (hK.2 5 _ rfl).1, rfl⟩
end HELP2
theorem aOuter (c : ClassId) (N h0 : Nat) : ∀ i : Nat, Jvm.Free.Multi.outerC c N h0 i = arrV c N (fun j => va_rf (if j < i then some (h0 + 1 + j) else none))
  | 0 => by
    show ({ cls := c, slots := Array.replicate N .null, vm := .none } : Cell) = _
    rw [arrV_new]
    refine congrArg (arrV c N) (funext fun j => ?_)
    simp [va_rf]
  | i + 1 => by
    show (Jvm.Free.Multi.outerC c N h0 i).setSlot i (.ref (h0 + 1 + i)) = _
    rw [aOuter c N h0 i, arrV_store]
    refine congrArg (arrV c N) (funext fun j => ?_)
    by_cases e : j = i
    · subst e
      simp [updV, va_rf]
    · by_cases h : j < i
      · simp [updV, e, h, Nat.lt_succ_of_lt h]
      · simp [updV, e, h, show ¬ j < i + 1 by omega]
set_option maxHeartbeats 4000000 in
theorem aMulti {D : va_G} {κ : Nat → ClassId} {B b o : Nat} {X : aX} {m : aM} {ix d len pc pc' : Nat} {L L' : aL} {S S' : List Value} {h h2 : aH} (hd : decode (am_cd m) pc = .ok (.multianewarray ix d, len)) (e : aOne X m (.multianewarray ix d) len pc L S h = some (pc', L', S', h2)) : aStp D κ B b o X m pc L S h pc' L' S' h2 := by
  simp only [aOne] at e
  split at e
  · next hq =>
    obtain ⟨hln, hd2, hk0, hix⟩ := hq
    subst hln; subst hd2; subst hix
    replace e := Option.bind_eq_some_iff.mp e; obtain ⟨⟨k, S1⟩, e1, e⟩ := e
    replace e := Option.bind_eq_some_iff.mp e; obtain ⟨⟨n, S2⟩, e2, e⟩ := e
    obtain rfl := pI_eq e1
    obtain rfl := pI_eq e2
    split at e
    · cases e
    · next hn =>
      have hk1 : ¬ k < 0 := fun z => hn (Or.inl z)
      have hk2 : k.toNatClampNeg ≤ 100000 := Nat.le_of_not_lt (fun z => hn (Or.inr (Or.inl z)))
      have hn1 : ¬ n < 0 := fun z => hn (Or.inr (Or.inr (Or.inl z)))
      have hn2 : n.toNatClampNeg ≤ 100000 := Nat.le_of_not_lt (fun z => hn (Or.inr (Or.inr (Or.inr z))))
      cases e
      refine ⟨⟨by simp only [List.length_append]; omega, by simp only; omega⟩, fun r h' hg1 hg2 K => ?_⟩
      simp only [List.length_append, List.length_cons, List.length_nil, List.length_replicate] at hg1
      simp only at hg2
      intro p l e R s mi args below meth c H locs cells slots ls hC hE hF hL hc hs hP hz hq hS hl
      have K1 := K p l e R s mi args below meth c
      simp only [List.length_append, List.length_cons, List.length_nil, List.length_replicate] at K1
      intro T hT Xs
      obtain ⟨vm₁, cA, comp, -, fA, fC, -, -, X', step⟩ := Xs.multianewarray2F (ty := .int) hC.1 hC.2.2.2.2.2.1 (index := 9) (hC.2.2.2.2.2.2.1 _ (aT (by rw [hk0]; exact aMul_ok.1) rfl)) hE.2.2.2.2.2.2.2.2.2.2.2 (hC.2.2.2.2.2.2.1 _ (aT aArr_ok.1 rfl)) (g := F0 mi pc ls (.int k :: .int n :: S2.map (rv B b o))) rfl (by rw [hC.2.1]; exact hd) rfl hn1 hk1 (by omega) (by simp [componentBytes]; omega) (by omega) rfl rfl (by omega) (by omega)
      have ecA : cA = κ 5 := Option.some.inj (fA.symm.trans (hE.1.2 5 (κ 5, .array .int) rfl).2)
      have ecy : comp = κ 0 := Option.some.inj (fC.symm.trans (hE.1.2 0 (κ 0, .int) rfl).2)
      subst ecA
      subst ecy
      generalize hFe : Jvm.Free.Multi.fill (T.setVm vm₁) (κ 5) (κ 0) n.toNatClampNeg k.toNatClampNeg (defaultValue .int) n.toNatClampNeg = F at X' step
      have hTh : (T.setVm vm₁).heap = H := hT
      obtain ⟨f1, f2, -, -⟩ := Jvm.Free.Multi.fill_facts (T.setVm vm₁) (κ 5) (κ 0) n.toNatClampNeg k.toNatClampNeg (defaultValue .int) n.toNatClampNeg
      rw [hFe, hTh] at f1 f2
      have hold : ∀ x : Nat, x < H.size → F.heap[x]? = H[x]? := fun x hx => by
        have := Jvm.Free.Multi.fill_old (T.setVm vm₁) (κ 5) (κ 0) n.toNatClampNeg k.toNatClampNeg (defaultValue .int) (a := x) (by rw [hTh]; exact hx) n.toNatClampNeg
        rw [hFe, hTh] at this
        exact this
      have hrow : ∀ j : Nat, j < n.toNatClampNeg → F.heap[H.size + 1 + j]? = some (vp_cell (κ 0) (k.toNatClampNeg, .inl (fun _ => 0))) := fun j hj => by
        have := Jvm.Free.Multi.fill_inner (T.setVm vm₁) (κ 5) (κ 0) n.toNatClampNeg k.toNatClampNeg (defaultValue .int) n.toNatClampNeg j hj
        rw [hFe, hTh] at this
        rw [this, vp_cell_i]
        exact congrArg some (arrV_new _ _ _)
      have hout : Jvm.Free.Multi.outerC (κ 5) n.toNatClampNeg H.size n.toNatClampNeg = vp_cell (κ 5) (n.toNatClampNeg, .inr (.inr (.inr (.inr (fun i => if i < n.toNatClampNeg then some (H.size + 1 + i) else none))))) := by
        rw [vp_cell_q]
        exact aOuter (κ 5) n.toNatClampNeg H.size n.toNatClampNeg
      rw [hout] at f2
      have hPn : va_P D vwCl (wd κ B b o ((h.1 ++ [.inl (5, n.toNatClampNeg, .inr (.inr (.inr (.inr (fun i => if i < n.toNatClampNeg then some (h.1.length + 1 + i) else none)))))]) ++ List.replicate n.toNatClampNeg (.inl (0, k.toNatClampNeg, .inl (fun _ => 0))))) F.heap := by
        intro k9 q9 hk9
        obtain ⟨hq9, hl9⟩ := wd_inv hk9
        simp only [List.length_append, List.length_cons, List.length_nil, List.length_replicate] at hl9
        rcases Nat.lt_trichotomy k9 h.1.length with hlt | heq | hgt
        · have hg : ((h.1 ++ [.inl (5, n.toNatClampNeg, .inr (.inr (.inr (.inr (fun i => if i < n.toNatClampNeg then some (h.1.length + 1 + i) else none)))))]) ++ List.replicate n.toNatClampNeg (.inl (0, k.toNatClampNeg, .inl (fun _ => 0))) : List aC)[k9]? = some h.1[k9] := by
            rw [List.getElem?_append_left (by simp; omega), List.getElem?_append_left hlt, List.getElem?_eq_getElem hlt]
          have h1 := wd_get (κ := κ) (B := B) (b := b) (o := o) hg
          rw [hk9] at h1
          cases h1
          exact (hP k9 _ (wd_get (List.getElem?_eq_getElem hlt))).kept (hold _ (by show B + k9 < H.size; omega))
        · subst heq
          have hg : ((h.1 ++ [.inl (5, n.toNatClampNeg, .inr (.inr (.inr (.inr (fun i => if i < n.toNatClampNeg then some (h.1.length + 1 + i) else none)))))]) ++ List.replicate n.toNatClampNeg (.inl (0, k.toNatClampNeg, .inl (fun _ => 0))) : List aC)[h.1.length]? = some (.inl (5, n.toNatClampNeg, .inr (.inr (.inr (.inr (fun i => if i < n.toNatClampNeg then some (h.1.length + 1 + i) else none)))))) := by
            rw [List.getElem?_append_left (by simp)]; simp
          have h1 := wd_get (κ := κ) (B := B) (b := b) (o := o) hg
          rw [hk9] at h1
          cases h1
          show F.heap[B + h.1.length]? = some (vp_cell (κ 5) _)
          rw [← hz, f2]
          refine congrArg (fun z => some (vp_cell (κ 5) (n.toNatClampNeg, .inr (.inr (.inr (.inr z)))))) (funext fun i => ?_)
          by_cases hi : i < n.toNatClampNeg
          · simp only [hi, if_true, Option.map_some]; congr 1; omega
          · simp only [hi, if_false, Option.map_none]
        · have hg : ((h.1 ++ [.inl (5, n.toNatClampNeg, .inr (.inr (.inr (.inr (fun i => if i < n.toNatClampNeg then some (h.1.length + 1 + i) else none)))))]) ++ List.replicate n.toNatClampNeg (.inl (0, k.toNatClampNeg, .inl (fun _ => 0))) : List aC)[k9]? = some (.inl (0, k.toNatClampNeg, .inl (fun _ => 0))) := by
            rw [List.getElem?_append_right (by simp; omega), List.getElem?_replicate, if_pos (by simp; omega)]
          have h1 := wd_get (κ := κ) (B := B) (b := b) (o := o) hg
          rw [hk9] at h1
          cases h1
          show F.heap[B + k9]? = some (vp_cell (κ 0) (k.toNatClampNeg, .inl (fun _ => 0)))
          rw [← hrow (k9 - h.1.length - 1) (by omega)]
          congr 1
          omega
      have e1 : cells + 1 + n.toNatClampNeg + (h'.1.length - (h.1.length + (0 + 1) + n.toNatClampNeg)) = cells + (h'.1.length - h.1.length) := by omega
      have e2' : slots + n.toNatClampNeg + n.toNatClampNeg * k.toNatClampNeg + (h'.2 - (h.2 + (n.toNatClampNeg + n.toNatClampNeg * k.toNatClampNeg))) = slots + (h'.2 - h.2) := by omega
      have K2 := K1 F.heap locs (cells + 1 + n.toNatClampNeg) (slots + n.toNatClampNeg + n.toNatClampNeg * k.toNatClampNeg) ls hC hE hF hL (by omega) (by omega) hPn (by rw [f1]; omega) (by rw [f1]; omega) ⟨by rw [f1]; have := hS.1; omega, fun q h1 h2 => (hold q (Nat.lt_of_lt_of_le h1 hS.1)).trans (hS.2.1 q h1 h2), hS.2.2⟩ hl
      rw [e1, e2'] at K2
      obtain ⟨t, a1, b1⟩ := K2 F rfl X'
      refine ⟨t, step t ?_, b1⟩
      have e9 : T.heap.size = B + h.1.length := by rw [hT]; exact hz
      rw [e9]
      exact a1
  · cases e

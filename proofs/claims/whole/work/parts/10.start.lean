/-! FROM THE SMALL MACHINE TO THE LAW'S OWN WALK -/
def aXs (L : Nat) (xs : Nat → Int32) : aX := fun z => if z = 0 then (L, xs) else (4, fun j => if j = 1 ∨ j = 2 then 2 else 6)
theorem aLay_ok : Cond.laysStatic "BargainHall$Groups" "ORDERS" "[I" ∈ lw_tbl := List.mem_of_getElem? (i := 827) (by decide +kernel)
theorem aLay_ini : Cond.initialized "BargainHall$Groups" ∈ lw_tbl := List.mem_of_getElem? (i := 59) (by decide +kernel)
theorem aKnown {s : State} {args : Array Value} (hts : ∀ w ∈ lw_tbl, w.before args s = true) : ∃ (D : va_G) (κ : Nat → ClassId), va_K D vwCl (aTys κ) s := by
  have h1 : ∀ k : Nat, ∃ d : ClassId × (Nat → Nat), ∀ q : vw_C, vwCl[k]? = some q → u_Kn s q.1 q.2.1 q.2.2 d.1 d.2 := by
    intro k
    cases hk : vwCl[k]? with
    | none => exact ⟨(0, fun _ => 0), fun q hq => by cases hq⟩
    | some r =>
      obtain ⟨cC, iS, h⟩ := u_known hts (aCls hk).1 (hts _ (aCls hk).2.2.2.1)
      exact ⟨(cC, iS), fun q hq => by cases hq; exact h⟩
  obtain ⟨d, hd⟩ := Classical.skolem.mp h1
  obtain ⟨c0, k0, m0, f0, g0, i0⟩ := Cond.arrayClass_spec (hts _ aArr_ok.1)
  obtain ⟨c1, k1, m1, f1, g1, i1⟩ := Cond.arrayClass_spec (hts _ aArr_ok.2)
  obtain ⟨m2, c2, k2, e2, -, g2, i2, f2⟩ := Cond.arrayOver_spec (hts _ aOvr_ok.1)
  obtain ⟨m3, c3, k3, e3, -, g3, i3, f3⟩ := Cond.arrayOver_spec (hts _ aOvr_ok.2.1)
  obtain ⟨m4, c4, k4, e4, -, g4, i4, f4⟩ := Cond.arrayOver_spec (hts _ aOvr_ok.2.2)
  obtain ⟨m5, c5, k5, e5, -, g5, i5, f5⟩ := arrayOverA_spec (hts _ aMul_ok.2)
  refine ⟨(fun k => (d k).1, fun k => (d k).2), fun t => if t = 0 then c0 else if t = 1 then c1 else if t = 2 then c2 else if t = 3 then c3 else if t = 4 then c4 else c5, fun k q hq => hd k q hq, fun k q hq => ?_⟩
  match k, hq with
  | 0, hq => cases hq; exact ⟨fun n z => ⟨fun k h => (by cases h), k0, g0, m0, i0⟩, f0⟩
  | 1, hq => cases hq; exact ⟨fun n z => ⟨fun k h => (by cases h), k1, g1, m1, i1⟩, f1⟩
  | 2, hq => cases hq; exact ⟨fun n z => ⟨fun k h => (by cases h), k2, g2, m2, i2⟩, k2, m2, g2, i2, e2, f2⟩
  | 3, hq => cases hq; exact ⟨fun n z => ⟨fun k h => (by cases h), k3, g3, m3, i3⟩, k3, m3, g3, i3, e3, f3⟩
  | 4, hq => cases hq; exact ⟨fun n z => ⟨fun k h => (by cases h), k4, g4, m4, i4⟩, k4, m4, g4, i4, e4, f4⟩
  | 5, hq => cases hq; exact ⟨fun n z => ⟨fun k h => (by cases h), k5, g5, m5, i5⟩, f5⟩
  | k + 6, hq => simp [aTys] at hq
theorem aOrders {s : State} {args : Array Value} {A : Nat → Prop} (hts : ∀ w ∈ lw_tbl, w.before args s = true) (hgv : (Jvm.Cond.and given_1 narrow_1).before args s = true) (hA : ∀ a : Nat, a < s.heap.size → ¬ A a) :
    ∃ o : Nat, va_T .int o 4 (fun j => .int ((aXs 0 (fun _ => 0) 1).2 j)) A s s.heap ∧ o < s.heap.size ∧ va_Z "BargainHall$Groups" "ORDERS" "[I" (.ref o) A s s.heap := by
  have hs := flat_of_before _ hgv
  have harr : (Cond.arrayOf (Term.static "BargainHall$Groups" "ORDERS" "[I") .int).before args s = true := hs _ (by decide +kernel)
  have hlen : (Term.length (Term.static "BargainHall$Groups" "ORDERS" "[I")).eval args s none [] s = some (.int (Int32.ofNat 4)) := va_eqt (hs (Cond.eq (Term.length (Term.static "BargainHall$Groups" "ORDERS" "[I")) (Term.int 4)) (by decide +kernel))
  have h0 := va_eqt (hs (Cond.eq (Term.elem (Term.static "BargainHall$Groups" "ORDERS" "[I") (Term.int 0)) (Term.int 6)) (by decide +kernel))
  have h1 := va_eqt (hs (Cond.eq (Term.elem (Term.static "BargainHall$Groups" "ORDERS" "[I") (Term.int 1)) (Term.int 2)) (by decide +kernel))
  have h2 := va_eqt (hs (Cond.eq (Term.elem (Term.static "BargainHall$Groups" "ORDERS" "[I") (Term.int 2)) (Term.int 2)) (by decide +kernel))
  have h3 := va_eqt (hs (Cond.eq (Term.elem (Term.static "BargainHall$Groups" "ORDERS" "[I") (Term.int 3)) (Term.int 6)) (by decide +kernel))
  obtain ⟨o, ho, hT⟩ := va_Tof (f := fun j => .int ((aXs 0 (fun _ => 0) 1).2 j)) (A := A) (N := 4) (by decide) harr hlen (fun j hj => by
    match j, hj with
    | 0, _ => exact h0
    | 1, _ => exact h1
    | 2, _ => exact h2
    | 3, _ => exact h3) hA
  refine ⟨o, hT, ?_, va_Zof (hts _ aLay_ok) (hts _ aLay_ini) ho hA⟩
  obtain ⟨cell, hc, -⟩ := hT
  exact (Array.getElem?_eq_some_iff.mp hc).1
/-- the small machine's run of the law gives the law's own walk -/
theorem aStart {p : Program} {e : Env} {s : State} {m : MethodId} {below : List Frame} {meth : Method} {c : Code} (l : Launch) {b L : Nat} {xs : Nat → Int32} {n : Nat} {h' : aH} (hev : ev (aXs L xs) n mL_law 0 [(0, .retAddr 0)] [] ([], 0) = some (some (.int 1), h')) (hr1 : h'.1.length ≤ 600000) (hr2 : h'.2 ≤ 7302250) (hL : L ≤ 3072)
    (hx : p.tables.exec = Jvm.exec) (hb : c.code = code) (hr : meth.sig.returnType = ret) (hml : c.maxLocals = 4) (hown : s.vm.findClass RL = some m.cls) (hts : ∀ w ∈ lw_tbl, w.before #[Value.ref b] s = true) (hX : va_X b L xs s s.heap) (hbl : b < s.heap.size) (hlocks : meth.locks = false) (hgv : (Jvm.Cond.and given_1 narrow_1).before #[Value.ref b] s = true) :
    W p l e room_1 s m #[Value.ref b] below meth c s.heap [] 0 0 (fun t => ∃ o, t.status = .running ∧ Ended t below o ∧ o = .returned (some (.int 1)) ∧ Framed s o t [] 600000 7302250) (entryFrame m ([Value.ref b] : List Value).toArray 4) := by
  obtain ⟨D, κ, hK⟩ := aKnown hts
  have hA : ∀ a : Nat, a < s.heap.size → ¬ (fun q => s.heap.size ≤ q) a := fun a h => Nat.not_le.mpr h
  obtain ⟨o, hTo, hol, hZ⟩ := aOrders hts hgv hA
  obtain ⟨scr, x1, x2, x3, x4, x5⟩ := hX
  have hTb : va_T .int b (aXs L xs 0).1 (fun j => .int ((aXs L xs 0).2 j)) (fun q => s.heap.size ≤ q) s s.heap := ⟨scr, x1, x2, x3, by rw [x4]; exact Nat.le_refl _, by rw [x4]; rfl, x5, hA b hbl⟩
  have hE : aEnv D κ s.heap.size b o (aXs L xs) s := ⟨hK, hTb, hbl, hTo, hol, Nat.le_refl _, hZ, fun w hw => va_Nw.of (aNst_tab w hw) (hts w (aNst_in w hw)), va_AO.of (hts _ aOvr_ok.1), va_AO.of (hts _ aOvr_ok.2.1), va_AO.of (hts _ aOvr_ok.2.2), hts _ aMul_ok.2⟩
  have hC : aCx p s m #[Value.ref b] meth c mL_law := ⟨hx, hb, hr, hml, hlocks, hown, fun w hw => hts w (List.mem_filter.mp hw).1, fun h => absurd h (by decide)⟩
  obtain ⟨-, hsim⟩ := ev_sim (D := D) (κ := κ) (B := s.heap.size) (b := b) (o := o) n hev
  have hl := lv_entry ([.ref b]) (n := 4) (Nat.le_of_ble_eq_true rfl)
  rw [lg_entry_eq]
  have K := hsim p l e room_1 s m #[Value.ref b] below meth c s.heap [] 0 0 _ hC hE (Nat.le_of_ble_eq_true rfl) (Nat.le_of_ble_eq_true rfl) (by show 0 + (h'.1.length - 0) ≤ 600000; omega) (by show 0 + (h'.2 - 0) ≤ 7302250; omega) (fun k q hk => by simp [wd] at hk) rfl rfl va_S.rf hl
  intro T hT XX
  obtain ⟨t, a1, oc, b1, b2, ⟨b3, -, -⟩, LL, ⟨q1, q2, q3⟩, hLL⟩ := K T hT XX
  refine ⟨t, a1, oc, b1, b2, b3, q1, q2, ?_⟩
  exact q3.weaken (fun y hy hlt => absurd hlt (Nat.not_lt.mpr (hLL y hy))) (by show 0 + (h'.1.length - 0) ≤ 600000; omega) (by show 0 + (h'.2 - 0) ≤ 7302250; omega)

section EVS
variable {D : va_G} {κ : Nat → ClassId} {B b o : Nat} {X : aX}
theorem aEnd {p : Program} {s : State} {mi : MethodId} {args : Array Value} {meth : Method} {c : Code} {m : aM} {H : Heap} {locs : List Loc} {h : aH} {r : Option Value} (hE : aEnv D κ B b o X s) (hP : va_P D vwCl (wd κ B b o h.1) H) (hz : H.size = B + h.1.length) (hS : va_S (fun q => B ≤ q) s.heap H locs) (t : State) (ht : t.heap = H) (hW : s.WarmedH t.vm) : aQ D κ B b o X r h args s (.returned (r.map (rv B b o))) t :=
  ⟨rfl, ⟨aEnv_moved hW (hS.F ht) hE, by rw [ht]; exact hP, by rw [ht]; exact hz⟩, hS.F ht⟩
theorem aRet_sim {m : aM} {i : Instr} {len pc : Nat} {L : aL} {S : List Value} {h : aH} {r : Option Value} (hd : decode (am_cd m) pc = .ok (i, len)) (e : aRet m i len S = some r) : aSim D κ B b o X m pc L S h r h := by
  intro p l ev R s mi args below meth c H locs cells slots ls hC hE hF hL hc hs hP hz hq hS hl
  simp only [Nat.sub_self, Nat.add_zero]
  obtain ⟨hx, hb, hr, hml, hlk, hown, hts, hnm⟩ := hC
  unfold aRet at e
  split at e
  · split at e
    · next v ty hrt =>
      split at e
      · next hq2 =>
        obtain ⟨hln, hnr⟩ := hq2
        subst hln
        cases e
        exact W.zret (ty := ty) hx hb (hr.trans hrt) hnr (fun t ht hW => aEnd (p := p) (mi := mi) (meth := meth) (c := c) (m := m) (r := some (.int v)) hE hP hz hS t ht hW) hS.2.2 hd hlk
      · cases e
    · cases e
  · split at e
    · next v hrt =>
      split at e
      · next hln =>
        subst hln
        cases e
        exact W.lret hx hb (hr.trans hrt) (fun t ht hW => aEnd (p := p) (mi := mi) (meth := meth) (c := c) (m := m) (r := some (.long v)) hE hP hz hS t ht hW) hS.2.2 hd hlk
      · cases e
    · cases e
  · split at e
    · next hrt =>
      split at e
      · next hln =>
        subst hln
        cases e
        exact W.vret hx hb (hr.trans hrt) (fun t ht hW => aEnd (p := p) (mi := mi) (meth := meth) (c := c) (m := m) (r := none) hE hP hz hS t ht hW) hS.2.2 hd hlk
      · cases e
    · cases e
  · cases e
def aWs (m : aM) : List Cond := Cond.code (am_nm m) (am_cd m) (am_ml m) (am_rt m) :: aTbl
theorem aWs_good {m : aM} (hk : aOkM m) : GoodIn aTbl (aWs m) := by
  intro w hw
  have h1 : w ∈ aTbl := by
    rcases List.mem_cons.mp hw with rfl | h
    · exact aT hk.1.1 rfl
    · exact h
  exact ⟨h1, good_of_word (List.mem_filter.mp h1).2⟩
def aPc (D : va_G) (κ : Nat → ClassId) (B b o : Nat) (X : aX) (vs : List Value) (h : aH) : Array Value → State → Prop := fun a U => a = (vs.map (rv B b o)).toArray ∧ aSt D κ B b o X h U
def aRm (m : aM) (h h1 : aH) : Room := { frames := am_F m, cells := h1.1.length - h.1.length, slots := h1.2 - h.2, locals := am_L m }
theorem lg_map (vs : List Value) : (lg_sl (vs.map (rv B b o))).length = (lg_sl vs).length := by
  induction vs with
  | nil => rfl
  | cons v vs ih =>
    simp only [lg_sl, List.map_cons, List.flatMap_cons, List.length_append] at ih ⊢
    rw [ih, rv_cat]
    congr 1
    split <;> rfl
theorem lv_args_map (vs : List Value) : ∀ i, lv_args i (vs.map (rv B b o)) = (lv_args i vs).map (rl B b o) := by
  induction vs with
  | nil => intro i; rfl
  | cons v vs ih =>
    intro i
    simp only [List.map_cons, lv_args, ih, rv_cat]
    rfl
/-- a method's contract, out of its run -/
theorem aMet (l : Launch) {m : aM} (hk : aOkM m) {vs : List Value} {h h1 : aH} {r : Option Value} (hfit : (lg_sl vs).length ≤ am_ml m) (hs : aSim D κ B b o X m 0 (lv_args 0 vs) [] h r h1) :
    Met l (am_nm m) (aWs m) (aRm m h h1) (aPc D κ B b o X vs h) (aQ D κ B b o X r h1) (h1.1.length - h.1.length) (h1.2 - h.2) (fun q => B ≤ q) := by
  refine Met.ofW (cc := am_cd m) (maxL := am_ml m) (ret := am_rt m) hk.1.2.2.2.1 rfl ?_
  intro p e s mi args below meth c s₁ Bd hml hv
  obtain ⟨rfl, hE, hP, hz⟩ := hv
  have hts := atoms_spec (ws := aWs m) Bd.pre
  have hown : s.vm.findClass (aR (am_k m)) = some mi.cls := by rw [hk.1.2.2.2.2]; exact findClass_of_methodNamed Bd.named
  have hl := lv_entry (vs.map (rv B b o)) (n := am_ml m) (by rw [lg_map]; exact hfit)
  rw [lg_entry_eq]
  rw [lv_args_map] at hl
  have K := hs p l e (headSpec (aWs m) (aRm m h h1)).room s mi ((vs.map (rv B b o)).toArray) below meth c s.heap [] 0 0 _ ⟨Bd.exec, Bd.bytes, Bd.returns, hml, Bd.notSynchronized, hown, fun w hw => hts w (List.mem_cons_of_mem _ hw), fun hh => (name_of_methodNamed Bd.named Bd.method).1.trans hh⟩ hE (Nat.le_refl _) (Nat.le_refl _) (by rw [Nat.zero_add]; exact Nat.le_refl _) (by rw [Nat.zero_add]; exact Nat.le_refl _) hP hz rfl va_S.rf hl
  rw [Nat.zero_add, Nat.zero_add] at K
  exact K
theorem aPc_blind {vs : List Value} {h : aH} : FrameBlind (aPc D κ B b o X vs h) := fun a _ g mk q => ⟨q.1, aSt_blind g mk a q.2⟩
end EVS
section RUNW
variable {p : Program} {l : Launch} {e : Env} {R : Room} {s : State} {m : MethodId} {args : Array Value} {below : List Frame} {meth : Method} {c : Code} {H : Heap} {locs : List Loc} {cells slots : Nat} {Q : State → Prop}
theorem aRun_W {mc ms pc : Nat} {ls : Array Slot} {st0 rest : List Value} {Qa : State → Outcome → State → Prop} {free : Addr → Prop} (hr : va_Run p l e R s m args below meth c H locs cells slots mc ms (F0 m pc ls st0) rest Qa free)
    (kk : ∀ (v : Option Value) (st₀ t : State) (L : List Loc), st₀.heap = H → (∀ q ∈ L, free q.base) → Qa st₀ (.returned v) t → W p l e R s m args below meth c t.heap (locs ++ L) (cells + mc) (slots + ms) Q (F0 m (pc + 3) ls (v.toList ++ rest))) : W p l e R s m args below meth c H locs cells slots Q (F0 m pc ls st0) := by
  intro T hT X
  obtain ⟨v, st₀, t, T', L, h0, X', hL, e1, e2, hq, st⟩ := hr T hT X
  obtain ⟨t2, a1, b1⟩ := kk v st₀ t L h0 hL hq T' e1 X'
  exact ⟨t2, st t2 a1, b1⟩
end RUNW
section EVC
variable {D : va_G} {κ : Nat → ClassId} {B b o : Nat} {X : aX}
/-- what stands behind a call -/
theorem aGoOn {m : aM} {pc : Nat} {L : aL} {S' : List Value} {h h1 h' : aH} {r r1 : Option Value} (hg1 : h.1.length ≤ h1.1.length) (hg2 : h.2 ≤ h1.2) (hg3 : h1.1.length ≤ h'.1.length) (hg4 : h1.2 ≤ h'.2) (hs2 : aSim D κ B b o X m (pc + 3) L (r1.toList ++ S') h1 r h')
    {p : Program} {l : Launch} {e : Env} {R : Room} {s : State} {mi : MethodId} {args : Array Value} {below : List Frame} {meth : Method} {c : Code} {H : Heap} {locs : List Loc} {cells slots : Nat} {ls : Array Slot} {st0 : List Value} {as : Array Value}
    (hC : aCx p s mi args meth c m) (hE : aEnv D κ B b o X s) (hF : am_F m ≤ R.frames) (hL : am_L m ≤ R.locals) (hc : cells + (h'.1.length - h.1.length) ≤ R.cells) (hs : slots + (h'.2 - h.2) ≤ R.slots) (hz : H.size = B + h.1.length) (hq : H.size = s.heap.size + cells) (hS : va_S (fun q => B ≤ q) s.heap H locs) (hl : lv_has ls (am_ml m) (L.map (rl B b o)))
    (hr : va_Run p l e R s mi args below meth c H locs cells slots (h1.1.length - h.1.length) (h1.2 - h.2) (F0 mi pc ls st0) (S'.map (rv B b o)) (aQ D κ B b o X r1 h1 as) (fun q => B ≤ q)) :
    W p l e R s mi args below meth c H locs cells slots (MQ below (aQ D κ B b o X r h') args s (cells + (h'.1.length - h.1.length)) (slots + (h'.2 - h.2)) (fun q => B ≤ q)) (F0 mi pc ls st0) := by
  refine aRun_W hr (fun v st₀ t LL h0 hLL hQ => ?_)
  obtain ⟨hv, ⟨hE1, hP1, hz1⟩, hF1⟩ := hQ
  cases hv
  have hS1 : va_S (fun q => B ≤ q) s.heap t.heap (locs ++ LL) := ⟨Nat.le_trans hS.1 (by have := hF1.1; rw [h0] at this; exact this), fun q q1 q2 => (by rw [hF1.2 q (by rw [h0]; exact Nat.lt_of_lt_of_le q1 hS.1) q2, h0]; exact hS.2.1 q q1 q2), fun q hq => by
    rcases List.mem_append.mp hq with h | h
    · exact hS.2.2 q h
    · exact hLL q h⟩
  have K := hs2 p l e R s mi args below meth c t.heap (locs ++ LL) (cells + (h1.1.length - h.1.length)) (slots + (h1.2 - h.2)) ls hC hE hF hL (by omega) (by omega) hP1 hz1 (by omega) hS1 hl
  rw [show cells + (h1.1.length - h.1.length) + (h'.1.length - h1.1.length) = cells + (h'.1.length - h.1.length) by omega, show slots + (h1.2 - h.2) + (h'.2 - h1.2) = slots + (h'.2 - h.2) by omega] at K
  have e9 : (r1.map (rv B b o)).toList ++ S'.map (rv B b o) = (r1.toList ++ S').map (rv B b o) := by cases r1 <;> rfl
  rw [e9]
  exact K
theorem take_rev {S : List Value} {n : Nat} (h : n ≤ S.length) : S = (S.take n).reverse.reverse ++ S.drop n ∧ (S.take n).reverse.length = n := by
  refine ⟨by rw [List.reverse_reverse, List.take_append_drop], by rw [List.length_reverse, List.length_take]; omega⟩
theorem aCall_sim {m m2 : aM} {i : Instr} {len pc : Nat} {L : aL} {S S' vs : List Value} {h h1 h' : aH} {r r1 : Option Value} (hd : decode (am_cd m) pc = .ok (i, len)) (ec : aCall m i len S h = some (m2, vs, S')) (hg1 : h.1.length ≤ h1.1.length) (hg2 : h.2 ≤ h1.2) (hg3 : h1.1.length ≤ h'.1.length) (hg4 : h1.2 ≤ h'.2)
    (hs1 : aSim D κ B b o X m2 0 (lv_args 0 vs) [] h r1 h1) (hs2 : aSim D κ B b o X m (pc + 3) L (r1.toList ++ S') h1 r h') : aSim D κ B b o X m pc L S h r h' := by
  intro p l ev R s mi args below meth c H locs cells slots ls hC hE hF hL hc hs hP hz hq hS hl
  refine aGoOn (as := (vs.map (rv B b o)).toArray) hg1 hg2 hg3 hg4 hs2 hC hE hF hL hc hs hz hq hS hl ?_
  obtain ⟨hx, hb, hr, hml, hlk, hown, hts, hnm⟩ := hC
  have hstart : ∀ U : State, U.heap = H → s.WarmedH U.vm → aSt D κ B b o X h U := fun U hU hW => by
    refine ⟨aEnv_moved hW ?_ hE, by rw [hU]; exact hP, by rw [hU]; exact hz⟩
    exact ⟨by rw [hU]; exact hS.1, fun q h1 h2 => by rw [hU]; exact hS.2.1 q h1 h2⟩
  unfold aCall at ec
  split at ec
  · next ix =>
    replace ec := Option.bind_eq_some_iff.mp ec; obtain ⟨⟨m3, nb⟩, e1, ec⟩ := ec
    split at ec
    · next hq2 =>
      obtain ⟨hln, hst, hlen, hfit⟩ := hq2
      subst hln
      cases ec
      obtain ⟨hok, hn1, hn2⟩ := aMth_ok e1
      have hfit := of_decide_eq_true hfit
      obtain ⟨f1, f2, f3, f4⟩ := hfit
      have hM := aMet l hok f4 hs1
      obtain ⟨t1, t2⟩ := take_rev hlen
      have hstk : S.map (rv B b o) = ((S.take (am_na m3)).reverse.map (rv B b o)).reverse ++ (S.drop (am_na m3)).map (rv B b o) := by
        rw [← List.map_reverse, ← List.map_append, ← t1]
      cases nb with
      | false =>
        exact va_runS (Ts := aTbl) (own := aR (am_k m)) (As := (S.take (am_na m3)).reverse.map (rv B b o)) ⟨hx, hb, hml, hown, hts⟩ hM ⟨callB_of (am_na m3) hts (aWs_good hok) rfl rfl rfl (hts _ (aT hok.1.2.1 rfl)) (hts _ (aT (hn2 rfl) rfl)) ⟨hok.2.1.1, hok.2.1.2, hok.1.2.2.1⟩ ⟨Nat.le_trans f1 hF, Nat.le_trans f2 hL⟩, hts _ (aT (hok.2.2.1 hst) rfl)⟩ ⟨aPc_blind, fun U hU hW => ⟨rfl, hstart U hU hW⟩⟩ rfl (by rw [List.length_map]; exact t2) hl.1 hstk (lv_room (aCat f3)) hd ⟨by omega, by omega⟩
      | true =>
        exact va_runSN (Ts := aTbl) (own := aR (am_k m)) (host := "BargainHall") (As := (S.take (am_na m3)).reverse.map (rv B b o)) ⟨hx, hb, hml, hown, hts⟩ hM ⟨va_cnB (am_na m3) hts (aWs_good hok) rfl rfl rfl (hE.2.2.2.2.2.2.2.1 _ (hn1 rfl)) (hts _ (aT hok.1.2.1 rfl)) ⟨hok.2.1.1, hok.2.1.2, hok.1.2.2.1⟩ ⟨Nat.le_trans f1 hF, Nat.le_trans f2 hL⟩, hts _ (aT (hok.2.2.1 hst) rfl), trivial⟩ ⟨aPc_blind, fun U hU hW => ⟨rfl, hstart U hU hW⟩⟩ rfl (by rw [List.length_map]; exact t2) hl.1 hstk (lv_room (aCat f3)) hd ⟨by omega, by omega⟩
    · cases ec
  · next ix =>
    replace ec := Option.bind_eq_some_iff.mp ec; obtain ⟨⟨m3, nb⟩, e1, ec⟩ := ec
    split at ec
    · next hq2 =>
      obtain ⟨hln, hst, hni, hlen⟩ := hq2
      subst hln
      split at ec
      · next rb rest hdr =>
        replace ec := Option.bind_eq_some_iff.mp ec; obtain ⟨⟨ci, fs⟩, e2, ec⟩ := ec
        split at ec
        · next hq3 =>
          obtain ⟨hci, hfit⟩ := hq3
          cases ec
          obtain ⟨hok, hn1, hn2⟩ := aMth_ok e1
          have hfit := of_decide_eq_true hfit
          obtain ⟨f1, f2, f3, f4⟩ := hfit
          have hM := aMet l hok f4 hs1
          obtain ⟨t1, t2⟩ := take_rev hlen
          have hstk : S.map (rv B b o) = ((S.take (am_na m3)).reverse.map (rv B b o)).reverse ++ .ref (B + rb) :: S'.map (rv B b o) := by
            conv => lhs; rw [t1, hdr]
            rw [List.map_append, List.map_reverse]; rfl
          obtain ⟨⟨rr, hrr1, hrr2⟩, hsel⟩ := hok.2.2.2.2.1 hst hni
          have hrec := va_recv hE.1 hP (q := rr) (by rw [show ci = am_k m3 from hci]; exact hrr1) (wd_get (aObj_eq e2))
          rw [hrr2] at hrec
          cases nb with
          | false =>
            exact va_runV (Ts := aTbl) (own := aR (am_k m)) (C := (am_nm m3).cls) (b := B + rb) (As := (S.take (am_na m3)).reverse.map (rv B b o)) ⟨hx, hb, hml, hown, hts⟩ hM ⟨callB_of (am_na m3) hts (aWs_good hok) rfl rfl rfl (hts _ (aT hok.1.2.1 rfl)) (hts _ (aT (hn2 rfl) rfl)) ⟨hok.2.1.1, hok.2.1.2, hok.1.2.2.1⟩ ⟨Nat.le_trans f1 hF, Nat.le_trans f2 hL⟩, hts _ (aT (hok.2.2.2.1 hst) rfl), hts _ (aT hsel rfl)⟩ ⟨aPc_blind, hrec, fun U hU hW => ⟨rfl, hstart U hU hW⟩⟩ rfl (by rw [List.length_map]; exact t2) hl.1 hstk (lv_room (aCat f3)) hd ⟨by omega, by omega⟩
          | true =>
            exact va_runVN (Ts := aTbl) (own := aR (am_k m)) (C := (am_nm m3).cls) (host := "BargainHall") (b := B + rb) (As := (S.take (am_na m3)).reverse.map (rv B b o)) ⟨hx, hb, hml, hown, hts⟩ hM ⟨va_cnB (am_na m3) hts (aWs_good hok) rfl rfl rfl (hE.2.2.2.2.2.2.2.1 _ (hn1 rfl)) (hts _ (aT hok.1.2.1 rfl)) ⟨hok.2.1.1, hok.2.1.2, hok.1.2.2.1⟩ ⟨Nat.le_trans f1 hF, Nat.le_trans f2 hL⟩, hts _ (aT (hok.2.2.2.1 hst) rfl), hts _ (aT hsel rfl)⟩ ⟨aPc_blind, hrec, fun U hU hW => ⟨rfl, hstart U hU hW⟩⟩ rfl (by rw [List.length_map]; exact t2) hl.1 hstk (lv_room (aCat f3)) hd ⟨by omega, by omega⟩
        · cases ec
      · cases ec
    · cases ec
  · next ix =>
    replace ec := Option.bind_eq_some_iff.mp ec; obtain ⟨⟨m3, nb⟩, e1, ec⟩ := ec
    split at ec
    · next hq2 =>
      obtain ⟨hln, hst, hni, hlen⟩ := hq2
      subst hln
      split at ec
      · next rb rest hdr =>
        split at ec
        · next hfit =>
          cases ec
          obtain ⟨hok, hn1, hn2⟩ := aMth_ok e1
          have hfit := of_decide_eq_true hfit
          obtain ⟨f1, f2, f3, f4⟩ := hfit
          have hM := aMet l hok f4 hs1
          have hrn : am_rt m3 = none := hok.2.2.2.2.2 hni
          obtain ⟨t1, t2⟩ := take_rev hlen
          have hstk : S.map (rv B b o) = ((S.take (am_na m3)).reverse.map (rv B b o)).reverse ++ .ref (B + rb) :: S'.map (rv B b o) := by
            conv => lhs; rw [t1, hdr]
            rw [List.map_append, List.map_reverse]; rfl
          have hw : aWs m3 = Cond.code (am_nm m3) (am_cd m3) (am_ml m3) none :: aTbl := by unfold aWs; rw [hrn]
          cases nb with
          | false =>
            exact va_runI (Ts := aTbl) (own := aR (am_k m)) (b := B + rb) (As := (S.take (am_na m3)).reverse.map (rv B b o)) ⟨hx, hb, hml, hown, hts⟩ hM ⟨callB_of (am_na m3) hts (aWs_good hok) hw rfl rfl (hts _ (aT hok.1.2.1 rfl)) (hts _ (aT (hn2 rfl) rfl)) ⟨hok.2.1.1, hok.2.1.2, hok.1.2.2.1⟩ ⟨Nat.le_trans f1 hF, Nat.le_trans f2 hL⟩, hni, hts _ (aT (hok.2.2.2.1 hst) rfl)⟩ ⟨aPc_blind, fun U hU hW => ⟨rfl, hstart U hU hW⟩⟩ rfl (by rw [List.length_map]; exact t2) hl.1 hstk (lv_room (aCat f3)) hd ⟨by omega, by omega⟩
          | true =>
            exact va_runIN (Ts := aTbl) (own := aR (am_k m)) (host := "BargainHall") (b := B + rb) (As := (S.take (am_na m3)).reverse.map (rv B b o)) ⟨hx, hb, hml, hown, hts⟩ hM ⟨va_cnB (am_na m3) hts (aWs_good hok) hw rfl rfl (hE.2.2.2.2.2.2.2.1 _ (hn1 rfl)) (hts _ (aT hok.1.2.1 rfl)) ⟨hok.2.1.1, hok.2.1.2, hok.1.2.2.1⟩ ⟨Nat.le_trans f1 hF, Nat.le_trans f2 hL⟩, hni, hts _ (aT (hok.2.2.2.1 hst) rfl)⟩ ⟨aPc_blind, fun U hU hW => ⟨rfl, hstart U hU hW⟩⟩ rfl (by rw [List.length_map]; exact t2) hl.1 hstk (lv_room (aCat f3)) hd ⟨by omega, by omega⟩
        · cases ec
      · cases ec
    · cases ec
  · cases ec
/-- THE SIMULATION: what the small machine answers, the machine answers -/
theorem ev_sim : ∀ (n : Nat) {m : aM} {pc : Nat} {L : aL} {S : List Value} {h h' : aH} {r : Option Value}, ev X n m pc L S h = some (r, h') → (h.1.length ≤ h'.1.length ∧ h.2 ≤ h'.2) ∧ aSim D κ B b o X m pc L S h r h'
  | 0, m, pc, L, S, h, h', r, e => by cases e
  | n + 1, m, pc, L, S, h, h', r, e => by
    unfold ev at e
    split at e
    · next i len hd =>
      split at e
      · next r1 hr =>
        cases e
        exact ⟨⟨Nat.le_refl _, Nat.le_refl _⟩, aRet_sim hd hr⟩
      · next hr =>
        split at e
        · next m2 vs S' hc =>
          split at e
          · next r1 h1 he =>
            obtain ⟨⟨a1, a2⟩, a3⟩ := ev_sim n he
            obtain ⟨⟨b1, b2⟩, b3⟩ := ev_sim n e
            exact ⟨⟨Nat.le_trans a1 b1, Nat.le_trans a2 b2⟩, aCall_sim hd hc a1 a2 b1 b2 a3 b3⟩
          · cases e
        · next hc =>
          split at e
          · next pc' L' S' h2 ho =>
            obtain ⟨⟨b1, b2⟩, b3⟩ := ev_sim n e
            obtain ⟨⟨a1, a2⟩, a3⟩ := aOne_stp (D := D) (κ := κ) (B := B) (b := b) (o := o) hd ho
            exact ⟨⟨Nat.le_trans a1 b1, Nat.le_trans a2 b2⟩, a3 r h' b1 b2 b3⟩
          · cases e
    · cases e
end EVC

theorem aG_n {L : aL} {i k : Nat} {v w : Value} (h : aL_get L k = some w) (hk : (k == i) = false) (hc : (k + 1 == i && w.category == 2) = false) : aL_get (aL_set L i v) k = some w := by
  have hki : ¬ k = i := by simpa using hk
  have hik : (i == k) = false := by simp; exact fun z => hki z.symm
  unfold aL_get at h ⊢
  unfold aL_set
  rw [List.find?_cons, hik]
  cases hf : L.find? (fun q => q.1 == k) with
  | none => rw [hf] at h; cases h
  | some q =>
    rw [hf] at h
    have hq2 : q.2 = w := Option.some.inj h
    have hq1 : q.1 = k := by have := List.find?_some hf; simpa using this
    have hp : (!(q.1 == i) && !(q.1 + 1 == i && q.2.category == 2)) = true := by rw [hq1, hq2, hk, hc]; rfl
    have key : (L.filter (fun q => !(q.1 == i) && !(q.1 + 1 == i && q.2.category == 2))).find? (fun q => q.1 == k) = some q := by
      rw [List.find?_filter]
      rw [List.find?_eq_some_iff_append] at hf ⊢
      obtain ⟨h1, as, bs, h2, h3⟩ := hf
      refine ⟨by rw [hp, h1]; rfl, as, bs, h2, fun a ha => ?_⟩
      have h4 := h3 a ha
      have h5 : (a.1 == k) = false := by simpa using h4
      rw [h5]; simp
    dsimp only
    rw [key, ← hq2]; rfl
def aK (X : aX) (m : aM) (pc : Nat) (L : aL) (rest : List Value) (Q : Option Value → Mm → Prop) : Option Value → Mm → Prop := fun r μ' => WP X m pc L (r.toList ++ rest) μ' Q
section LIB
variable {X : aX} {m m0 : aM} {pc pc0 : Nat} {L L0 : aL} {S rest : List Value} {μ : Mm} {Q : Option Value → Mm → Prop}
theorem aK_i {v : Int32} (k : WP X m pc L (.int v :: rest) μ Q) : aK X m pc L rest Q (some (.int v)) μ := k
theorem aK_l {v : Int64} (k : WP X m pc L (.long v :: rest) μ Q) : aK X m pc L rest Q (some (.long v)) μ := k
theorem aK_v (k : WP X m pc L rest μ Q) : aK X m pc L rest Q none μ := k
theorem wp_ireturn {v : Int32} {ty : FieldType} (hd : decode (am_cd m) pc = .ok (.ireturn, 1)) (hrt : am_rt m = some ty) (hn : narrow ty (.int v) = .int v) (k : Q (some (.int v)) μ) : WP X m pc L [.int v] μ Q := wp_ret hd (by simp [aRet, hrt, hn]) k
theorem wp_lreturn {v : Int64} (hd : decode (am_cd m) pc = .ok (.lreturn, 1)) (hrt : am_rt m = some .long) (k : Q (some (.long v)) μ) : WP X m pc L [.long v] μ Q := wp_ret hd (by simp [aRet, hrt]) k
theorem wp_vreturn (hd : decode (am_cd m) pc = .ok (.return_, 1)) (hrt : am_rt m = none) (k : Q none μ) : WP X m pc L [] μ Q := wp_ret hd (by simp [aRet, hrt]) k
theorem wp_iretK {v : Int32} {ty : FieldType} (hd : decode (am_cd m) pc = .ok (.ireturn, 1)) (hrt : am_rt m = some ty) (hn : narrow ty (.int v) = .int v) (k : WP X m0 pc0 L0 (.int v :: rest) μ Q) : WP X m pc L [.int v] μ (aK X m0 pc0 L0 rest Q) := wp_ireturn hd hrt hn k
theorem wp_lretK {v : Int64} (hd : decode (am_cd m) pc = .ok (.lreturn, 1)) (hrt : am_rt m = some .long) (k : WP X m0 pc0 L0 (.long v :: rest) μ Q) : WP X m pc L [.long v] μ (aK X m0 pc0 L0 rest Q) := wp_lreturn hd hrt k
theorem wp_vretK (hd : decode (am_cd m) pc = .ok (.return_, 1)) (hrt : am_rt m = none) (k : WP X m0 pc0 L0 rest μ Q) : WP X m pc L [] μ (aK X m0 pc0 L0 rest Q) := wp_vreturn hd hrt k
theorem wp_cS {ix : Nat} {m2 : aM} {nb : Bool} {vs : List Value} (hd : decode (am_cd m) pc = .ok (.invokestatic ix, 3)) (hm : aMth (am_k m) ix = some (m2, nb)) (hst : am_st m2 = true) (hp : aSpl (am_na m2) [] S = some (vs, rest)) (hf : aFits m m2 vs rest = true) (k : WP X m2 0 (lv_args 0 vs) [] μ (aK X m (pc + 3) L rest Q)) : WP X m pc L S μ Q := wp_callS hd hm hst hp hf k
theorem wp_cV {ix b c : Nat} {m2 : aM} {nb : Bool} {vs : List Value} {sl : List (Nat × Nat)} (hd : decode (am_cd m) pc = .ok (.invokevirtual ix, 3)) (hm : aMth (am_k m) ix = some (m2, nb)) (hst : am_st m2 = false) (hni : (am_nm m2).name ≠ "<init>") (hp : aSpl (am_na m2) [] S = some (vs, .ref b :: rest)) (hs : shp[b]? = some (.inl (c, sl))) (hc : c = am_k m2) (hf : aFits m m2 (.ref b :: vs) rest = true) (k : WP X m2 0 (lv_args 0 (.ref b :: vs)) [] μ (aK X m (pc + 3) L rest Q)) : WP X m pc L S μ Q := wp_callV hd hm hst hni hp hs hc hf k
theorem wp_ialdC {a n j : Nat} {i : Int32} (hd : decode (am_cd m) pc = .ok (.iaload, 1)) (hs : shp[a]? = some (.inr (.inl (0, n)))) (hj : i.toNatClampNeg = j) (hi : aIn i n = true) (k : WP X m (pc + 1) L (.int (μ.1 a j) :: S) μ Q) : WP X m pc L (.int i :: .ref a :: S) μ Q := by
  subst hj; exact wp_iald hd hs (aIn_eq hi) k
theorem wp_zaldC {a n j : Nat} {i : Int32} (hd : decode (am_cd m) pc = .ok (.baload, 1)) (hs : shp[a]? = some (.inr (.inl (1, n)))) (hj : i.toNatClampNeg = j) (hi : aIn i n = true) (k : WP X m (pc + 1) L (.int (μ.1 a j) :: S) μ Q) : WP X m pc L (.int i :: .ref a :: S) μ Q := by
  subst hj; exact wp_zald hd hs (aIn_eq hi) k
theorem wp_iastC {a n j : Nat} {i x : Int32} (hd : decode (am_cd m) pc = .ok (.iastore, 1)) (hs : shp[a]? = some (.inr (.inl (0, n)))) (hj : i.toNatClampNeg = j) (hi : aIn i n = true) (k : WP X m (pc + 1) L S (up2 μ.1 a j x, μ.2) Q) : WP X m pc L (.int x :: .int i :: .ref a :: S) μ Q := by
  subst hj; exact wp_iast hd hs (aIn_eq hi) k
theorem wp_swI {x : Int32} {d lo hi off : Int} {offs : Array Int} {len j tgt : Nat} (hd : decode (am_cd m) pc = .ok (.tableswitch d lo hi offs, len)) (hx : x.toInt = lo + j) (hj : lo + j ≤ hi) (ho : offs[j]? = some off) (ht : aTgt pc off = some tgt) (k : WP X m tgt L S μ Q) : WP X m pc L (.int x :: S) μ Q := by
  have hn : ¬ (x.toInt < lo ∨ hi < x.toInt) := by omega
  have hc : (x.toInt - lo).toNat = j := by omega
  refine wp_one hd rfl rfl ?_ k
  simp only [aOne, pI, Option.bind_some]
  rw [if_neg hn, hc, ho]
  simp only [Option.bind_some]
  rw [ht]; rfl
theorem wp_swD {x : Int32} {d lo hi : Int} {offs : Array Int} {len tgt : Nat} (hd : decode (am_cd m) pc = .ok (.tableswitch d lo hi offs, len)) (hx : x.toInt < lo ∨ hi < x.toInt) (ht : aTgt pc d = some tgt) (k : WP X m tgt L S μ Q) : WP X m pc L (.int x :: S) μ Q := by
  refine wp_one hd rfl rfl ?_ k
  simp only [aOne, pI, Option.bind_some]
  rw [if_pos hx, ht]; rfl
end LIB
theorem i_lt (a b : Int32) : a < b ↔ a.toInt < b.toInt := Int32.lt_iff_toInt_lt
theorem i_le (a b : Int32) : a ≤ b ↔ a.toInt ≤ b.toInt := Int32.le_iff_toInt_le
theorem i_eq (a b : Int32) : a = b ↔ a.toInt = b.toInt := ⟨fun h => by rw [h], fun h => Int32.toInt_inj.mp h⟩
theorem l_le (a b : Int64) : a ≤ b ↔ a.toInt ≤ b.toInt := Int64.le_iff_toInt_le
theorem l_lt (a b : Int64) : a < b ↔ a.toInt < b.toInt := Int64.lt_iff_toInt_lt
theorem w_int (a : Int32) : a.toInt64.toInt = a.toInt := Int32.toInt_toInt64 a

/-! RULES: a rule an instruction -/
section RULES
variable {X : aX} {m : aM} {pc : Nat} {L : aL} {S : List Value} {μ : Mm} {Q : Option Value → Mm → Prop}
theorem wp_iconst {n : Int} {v : Int32} (hd : decode (am_cd m) pc = .ok (.iconst n, 1)) (hv : Int32.ofInt n = v) (k : WP X m (pc + 1) L (.int v :: S) μ Q) : WP X m pc L S μ Q := wp_one hd rfl rfl (by rw [← hv]; rfl) k
theorem wp_bipush {n : Int} {v : Int32} (hd : decode (am_cd m) pc = .ok (.bipush n, 2)) (hv : (Int8.ofInt n).toInt32 = v) (k : WP X m (pc + 2) L (.int v :: S) μ Q) : WP X m pc L S μ Q := wp_one hd rfl rfl (by rw [← hv]; rfl) k
theorem wp_sipush {n : Int} {v : Int32} (hd : decode (am_cd m) pc = .ok (.sipush n, 3)) (hv : (Int16.ofInt n).toInt32 = v) (k : WP X m (pc + 3) L (.int v :: S) μ Q) : WP X m pc L S μ Q := wp_one hd rfl rfl (by rw [← hv]; rfl) k
theorem wp_lconst {n : Fin 2} {v : Int64} (hd : decode (am_cd m) pc = .ok (.lconst n, 1)) (hv : Int64.ofNat (n : Nat) = v) (k : WP X m (pc + 1) L (.long v :: S) μ Q) : WP X m pc L S μ Q := wp_one hd rfl rfl (by rw [← hv]; rfl) k
theorem wp_ldc {ix : Nat} {v : Int32} (hd : decode (am_cd m) pc = .ok (.ldc ix, 2)) (hv : aCst (am_k m) ix = some v) (k : WP X m (pc + 2) L (.int v :: S) μ Q) : WP X m pc L S μ Q := wp_one hd rfl rfl (by simp [aOne, hv]) k
theorem wp_ldcw {ix : Nat} {v : Int32} (hd : decode (am_cd m) pc = .ok (.ldc_w ix, 3)) (hv : aCst (am_k m) ix = some v) (k : WP X m (pc + 3) L (.int v :: S) μ Q) : WP X m pc L S μ Q := wp_one hd rfl rfl (by simp [aOne, hv]) k
theorem wp_ldc2 {ix : Nat} {v : Int64} (hd : decode (am_cd m) pc = .ok (.ldc2_w ix, 3)) (hv : aCsL (am_k m) ix = some v) (k : WP X m (pc + 3) L (.long v :: S) μ Q) : WP X m pc L S μ Q := wp_one hd rfl rfl (by simp [aOne, hv]) k
theorem wp_iload {i : Nat} {x : Int32} (hd : decode (am_cd m) pc = .ok (.iload i, 2)) (hg : aL_get L i = some (.int x)) (k : WP X m (pc + 2) L (.int x :: S) μ Q) : WP X m pc L S μ Q := wp_one hd rfl rfl (by simp [aOne, aLd, hg]) k
theorem wp_iload_n {i : Fin 4} {x : Int32} (hd : decode (am_cd m) pc = .ok (.iload_n i, 1)) (hg : aL_get L i = some (.int x)) (k : WP X m (pc + 1) L (.int x :: S) μ Q) : WP X m pc L S μ Q := wp_one hd rfl rfl (by simp [aOne, aLd, hg]) k
theorem wp_lload {i : Nat} {x : Int64} (hd : decode (am_cd m) pc = .ok (.lload i, 2)) (hg : aL_get L i = some (.long x)) (k : WP X m (pc + 2) L (.long x :: S) μ Q) : WP X m pc L S μ Q := wp_one hd rfl rfl (by simp [aOne, aLd, hg]) k
theorem wp_lload_n {i : Fin 4} {x : Int64} (hd : decode (am_cd m) pc = .ok (.lload_n i, 1)) (hg : aL_get L i = some (.long x)) (k : WP X m (pc + 1) L (.long x :: S) μ Q) : WP X m pc L S μ Q := wp_one hd rfl rfl (by simp [aOne, aLd, hg]) k
theorem wp_aload {i : Nat} {x : Nat} (hd : decode (am_cd m) pc = .ok (.aload i, 2)) (hg : aL_get L i = some (.ref x)) (k : WP X m (pc + 2) L (.ref x :: S) μ Q) : WP X m pc L S μ Q := wp_one hd rfl rfl (by simp [aOne, aLd, hg]) k
theorem wp_aload_n {i : Fin 4} {x : Nat} (hd : decode (am_cd m) pc = .ok (.aload_n i, 1)) (hg : aL_get L i = some (.ref x)) (k : WP X m (pc + 1) L (.ref x :: S) μ Q) : WP X m pc L S μ Q := wp_one hd rfl rfl (by simp [aOne, aLd, hg]) k
theorem wp_eload {i : Nat} {x : Nat} (hd : decode (am_cd m) pc = .ok (.aload i, 2)) (hg : aL_get L i = some (.retAddr x)) (k : WP X m (pc + 2) L (.retAddr x :: S) μ Q) : WP X m pc L S μ Q := wp_one hd rfl rfl (by simp [aOne, aLd, hg]) k
theorem wp_eload_n {i : Fin 4} {x : Nat} (hd : decode (am_cd m) pc = .ok (.aload_n i, 1)) (hg : aL_get L i = some (.retAddr x)) (k : WP X m (pc + 1) L (.retAddr x :: S) μ Q) : WP X m pc L S μ Q := wp_one hd rfl rfl (by simp [aOne, aLd, hg]) k
theorem wp_istore {i : Nat} {x : Int32} (hd : decode (am_cd m) pc = .ok (.istore i, 2)) (hi : i < am_ml m) (k : WP X m (pc + 2) (aL_set L i (.int x)) S μ Q) : WP X m pc L (.int x :: S) μ Q := wp_one hd rfl rfl (by simp [aOne, aStI, pI, pR, pJ, hi]) k
theorem wp_istore_n {i : Fin 4} {x : Int32} (hd : decode (am_cd m) pc = .ok (.istore_n i, 1)) (hi : (i : Nat) < am_ml m) (k : WP X m (pc + 1) (aL_set L i (.int x)) S μ Q) : WP X m pc L (.int x :: S) μ Q := wp_one hd rfl rfl (by simp [aOne, aStI, pI, pR, pJ, hi]) k
theorem wp_astore {i : Nat} {x : Nat} (hd : decode (am_cd m) pc = .ok (.astore i, 2)) (hi : i < am_ml m) (k : WP X m (pc + 2) (aL_set L i (.ref x)) S μ Q) : WP X m pc L (.ref x :: S) μ Q := wp_one hd rfl rfl (by simp [aOne, aStR, pI, pR, pJ, hi]) k
theorem wp_astore_n {i : Fin 4} {x : Nat} (hd : decode (am_cd m) pc = .ok (.astore_n i, 1)) (hi : (i : Nat) < am_ml m) (k : WP X m (pc + 1) (aL_set L i (.ref x)) S μ Q) : WP X m pc L (.ref x :: S) μ Q := wp_one hd rfl rfl (by simp [aOne, aStR, pI, pR, pJ, hi]) k
theorem wp_lstore {i : Nat} {x : Int64} (hd : decode (am_cd m) pc = .ok (.lstore i, 2)) (hi : i + 1 < am_ml m) (k : WP X m (pc + 2) (aL_set2 L i (.long x)) S μ Q) : WP X m pc L (.long x :: S) μ Q := wp_one hd rfl rfl (by simp [aOne, aStJ, pI, pR, pJ, hi]) k
theorem wp_lstore_n {i : Fin 4} {x : Int64} (hd : decode (am_cd m) pc = .ok (.lstore_n i, 1)) (hi : (i : Nat) + 1 < am_ml m) (k : WP X m (pc + 1) (aL_set2 L i (.long x)) S μ Q) : WP X m pc L (.long x :: S) μ Q := wp_one hd rfl rfl (by simp [aOne, aStJ, pI, pR, pJ, hi]) k
theorem wp_iinc {i : Nat} {n : Int} {x v : Int32} (hd : decode (am_cd m) pc = .ok (.iinc i n, 3)) (hi : i < am_ml m) (hg : aL_get L i = some (.int x)) (hv : x + Int32.ofInt n = v) (k : WP X m (pc + 3) (aL_set L i (.int v)) S μ Q) : WP X m pc L S μ Q := wp_one hd rfl rfl (by simp [aOne, hg, hi, hv]) k
theorem wp_dupi {x : Int32} (hd : decode (am_cd m) pc = .ok (.dup, 1))  (k : WP X m (pc + 1) L (.int x :: .int x :: S) μ Q) : WP X m pc L (.int x :: S) μ Q := wp_one hd rfl rfl (rfl) k
theorem wp_dupr {x : Nat} (hd : decode (am_cd m) pc = .ok (.dup, 1))  (k : WP X m (pc + 1) L (.ref x :: .ref x :: S) μ Q) : WP X m pc L (.ref x :: S) μ Q := wp_one hd rfl rfl (rfl) k
theorem wp_dup2 {x : Int32} {a : Nat} (hd : decode (am_cd m) pc = .ok (.dup2, 1))  (k : WP X m (pc + 1) L (.int x :: .ref a :: .int x :: .ref a :: S) μ Q) : WP X m pc L (.int x :: .ref a :: S) μ Q := wp_one hd rfl rfl (rfl) k
theorem wp_popi {x : Int32} (hd : decode (am_cd m) pc = .ok (.pop, 1))  (k : WP X m (pc + 1) L S μ Q) : WP X m pc L (.int x :: S) μ Q := wp_one hd rfl rfl (rfl) k
theorem wp_iadd {x y : Int32} (hd : decode (am_cd m) pc = .ok (.iadd, 1))  (k : WP X m (pc + 1) L (.int (x + y) :: S) μ Q) : WP X m pc L (.int y :: .int x :: S) μ Q := wp_one hd rfl rfl (rfl) k
theorem wp_isub {x y : Int32} (hd : decode (am_cd m) pc = .ok (.isub, 1))  (k : WP X m (pc + 1) L (.int (x - y) :: S) μ Q) : WP X m pc L (.int y :: .int x :: S) μ Q := wp_one hd rfl rfl (rfl) k
theorem wp_imul {x y : Int32} (hd : decode (am_cd m) pc = .ok (.imul, 1))  (k : WP X m (pc + 1) L (.int (x * y) :: S) μ Q) : WP X m pc L (.int y :: .int x :: S) μ Q := wp_one hd rfl rfl (rfl) k
theorem wp_iand {x y : Int32} (hd : decode (am_cd m) pc = .ok (.iand, 1))  (k : WP X m (pc + 1) L (.int (x &&& y) :: S) μ Q) : WP X m pc L (.int y :: .int x :: S) μ Q := wp_one hd rfl rfl (rfl) k
theorem wp_ior {x y : Int32} (hd : decode (am_cd m) pc = .ok (.ior, 1))  (k : WP X m (pc + 1) L (.int (x ||| y) :: S) μ Q) : WP X m pc L (.int y :: .int x :: S) μ Q := wp_one hd rfl rfl (rfl) k
theorem wp_ixor {x y : Int32} (hd : decode (am_cd m) pc = .ok (.ixor, 1))  (k : WP X m (pc + 1) L (.int (x ^^^ y) :: S) μ Q) : WP X m pc L (.int y :: .int x :: S) μ Q := wp_one hd rfl rfl (rfl) k
theorem wp_ishl {x y : Int32} (hd : decode (am_cd m) pc = .ok (.ishl, 1))  (k : WP X m (pc + 1) L (.int (x <<< (y &&& 31)) :: S) μ Q) : WP X m pc L (.int y :: .int x :: S) μ Q := wp_one hd rfl rfl (rfl) k
theorem wp_ishr {x y : Int32} (hd : decode (am_cd m) pc = .ok (.ishr, 1))  (k : WP X m (pc + 1) L (.int (x >>> (y &&& 31)) :: S) μ Q) : WP X m pc L (.int y :: .int x :: S) μ Q := wp_one hd rfl rfl (rfl) k
theorem wp_iushr {x y : Int32} (hd : decode (am_cd m) pc = .ok (.iushr, 1))  (k : WP X m (pc + 1) L (.int ((x.toUInt32 >>> (y.toUInt32 &&& Int32.toUInt32 31)).toInt32) :: S) μ Q) : WP X m pc L (.int y :: .int x :: S) μ Q := wp_one hd rfl rfl (rfl) k
theorem wp_idiv {x y : Int32} (hd : decode (am_cd m) pc = .ok (.idiv, 1)) (hy : ¬ y = 0) (k : WP X m (pc + 1) L (.int (x / y) :: S) μ Q) : WP X m pc L (.int y :: .int x :: S) μ Q := wp_one hd rfl rfl (by simp [aOne, a2i, pI, hy]) k
theorem wp_irem {x y : Int32} (hd : decode (am_cd m) pc = .ok (.irem, 1)) (hy : ¬ y = 0) (k : WP X m (pc + 1) L (.int (x - x / y * y) :: S) μ Q) : WP X m pc L (.int y :: .int x :: S) μ Q := wp_one hd rfl rfl (by simp [aOne, a2i, pI, hy]) k
theorem wp_ineg {x : Int32} (hd : decode (am_cd m) pc = .ok (.ineg, 1))  (k : WP X m (pc + 1) L (.int (-x) :: S) μ Q) : WP X m pc L (.int x :: S) μ Q := wp_one hd rfl rfl (rfl) k
theorem wp_i2b {x : Int32} (hd : decode (am_cd m) pc = .ok (.i2b, 1))  (k : WP X m (pc + 1) L (.int x.toInt8.toInt32 :: S) μ Q) : WP X m pc L (.int x :: S) μ Q := wp_one hd rfl rfl (rfl) k
theorem wp_i2s {x : Int32} (hd : decode (am_cd m) pc = .ok (.i2s, 1))  (k : WP X m (pc + 1) L (.int x.toInt16.toInt32 :: S) μ Q) : WP X m pc L (.int x :: S) μ Q := wp_one hd rfl rfl (rfl) k
theorem wp_i2l {x : Int32} (hd : decode (am_cd m) pc = .ok (.i2l, 1))  (k : WP X m (pc + 1) L (.long x.toInt64 :: S) μ Q) : WP X m pc L (.int x :: S) μ Q := wp_one hd rfl rfl (rfl) k
theorem wp_l2i {x : Int64} (hd : decode (am_cd m) pc = .ok (.l2i, 1))  (k : WP X m (pc + 1) L (.int x.toInt32 :: S) μ Q) : WP X m pc L (.long x :: S) μ Q := wp_one hd rfl rfl (rfl) k
theorem wp_ladd {x y : Int64} (hd : decode (am_cd m) pc = .ok (.ladd, 1))  (k : WP X m (pc + 1) L (.long (x + y) :: S) μ Q) : WP X m pc L (.long y :: .long x :: S) μ Q := wp_one hd rfl rfl (rfl) k
theorem wp_lmul {x y : Int64} (hd : decode (am_cd m) pc = .ok (.lmul, 1))  (k : WP X m (pc + 1) L (.long (x * y) :: S) μ Q) : WP X m pc L (.long y :: .long x :: S) μ Q := wp_one hd rfl rfl (rfl) k
theorem wp_land {x y : Int64} (hd : decode (am_cd m) pc = .ok (.land, 1))  (k : WP X m (pc + 1) L (.long (x &&& y) :: S) μ Q) : WP X m pc L (.long y :: .long x :: S) μ Q := wp_one hd rfl rfl (rfl) k
theorem wp_lor {x y : Int64} (hd : decode (am_cd m) pc = .ok (.lor, 1))  (k : WP X m (pc + 1) L (.long (x ||| y) :: S) μ Q) : WP X m pc L (.long y :: .long x :: S) μ Q := wp_one hd rfl rfl (rfl) k
theorem wp_lcmp {x y : Int64} (hd : decode (am_cd m) pc = .ok (.lcmp, 1))  (k : WP X m (pc + 1) L (.int (lg_cmp x y) :: S) μ Q) : WP X m pc L (.long y :: .long x :: S) μ Q := wp_one hd rfl rfl (rfl) k
theorem wp_lshl {x : Int64} {y : Int32} (hd : decode (am_cd m) pc = .ok (.lshl, 1))  (k : WP X m (pc + 1) L (.long (x <<< (y.toInt64 &&& 63)) :: S) μ Q) : WP X m pc L (.int y :: .long x :: S) μ Q := wp_one hd rfl rfl (rfl) k
theorem wp_lshr {x : Int64} {y : Int32} (hd : decode (am_cd m) pc = .ok (.lshr, 1))  (k : WP X m (pc + 1) L (.long (x >>> (y.toInt64 &&& 63)) :: S) μ Q) : WP X m pc L (.int y :: .long x :: S) μ Q := wp_one hd rfl rfl (rfl) k
theorem wp_lushr {x : Int64} {y : Int32} (hd : decode (am_cd m) pc = .ok (.lushr, 1))  (k : WP X m (pc + 1) L (.long ((x.toUInt64 >>> (y.toInt64.toUInt64 &&& Int64.toUInt64 63)).toInt64) :: S) μ Q) : WP X m pc L (.int y :: .long x :: S) μ Q := wp_one hd rfl rfl (rfl) k
theorem wp_if_eq {x : Int32} {off : Int} {tgt : Nat} (hd : decode (am_cd m) pc = .ok (.ifCond .eq off, 3)) (ht : aTgt pc off = some tgt) (kt : x = 0 → WP X m tgt L S μ Q) (kf : ¬ x = 0 → WP X m (pc + 3) L S μ Q) : WP X m pc L (.int x :: S) μ Q := by
  by_cases q : x = 0
  · exact wp_one hd rfl rfl (by simp only [aOne, pI, ht, Option.bind_some, if_true]; rw [if_pos (show aC2 .eq x 0 = true from decide_eq_true q)]) (kt q)
  · exact wp_one hd rfl rfl (by simp only [aOne, pI, ht, Option.bind_some, if_true]; rw [if_neg (show ¬ aC2 .eq x 0 = true from fun z => q (of_decide_eq_true z))]) (kf q)
theorem wp_icmp_eq {x y : Int32} {off : Int} {tgt : Nat} (hd : decode (am_cd m) pc = .ok (.if_icmp .eq off, 3)) (ht : aTgt pc off = some tgt) (kt : x = y → WP X m tgt L S μ Q) (kf : ¬ x = y → WP X m (pc + 3) L S μ Q) : WP X m pc L (.int y :: .int x :: S) μ Q := by
  by_cases q : x = y
  · exact wp_one hd rfl rfl (by simp only [aOne, pI, ht, Option.bind_some, if_true]; rw [if_pos (show aC2 .eq x y = true from decide_eq_true q)]) (kt q)
  · exact wp_one hd rfl rfl (by simp only [aOne, pI, ht, Option.bind_some, if_true]; rw [if_neg (show ¬ aC2 .eq x y = true from fun z => q (of_decide_eq_true z))]) (kf q)
theorem wp_if_ne {x : Int32} {off : Int} {tgt : Nat} (hd : decode (am_cd m) pc = .ok (.ifCond .ne off, 3)) (ht : aTgt pc off = some tgt) (kt : ¬ x = 0 → WP X m tgt L S μ Q) (kf : x = 0 → WP X m (pc + 3) L S μ Q) : WP X m pc L (.int x :: S) μ Q := by
  by_cases q : x = 0
  · exact wp_one hd rfl rfl (by simp only [aOne, pI, ht, Option.bind_some, if_true]; rw [if_neg (show ¬ aC2 .ne x 0 = true from fun z => of_decide_eq_true z q)]) (kf q)
  · exact wp_one hd rfl rfl (by simp only [aOne, pI, ht, Option.bind_some, if_true]; rw [if_pos (show aC2 .ne x 0 = true from decide_eq_true q)]) (kt q)
theorem wp_icmp_ne {x y : Int32} {off : Int} {tgt : Nat} (hd : decode (am_cd m) pc = .ok (.if_icmp .ne off, 3)) (ht : aTgt pc off = some tgt) (kt : ¬ x = y → WP X m tgt L S μ Q) (kf : x = y → WP X m (pc + 3) L S μ Q) : WP X m pc L (.int y :: .int x :: S) μ Q := by
  by_cases q : x = y
  · exact wp_one hd rfl rfl (by simp only [aOne, pI, ht, Option.bind_some, if_true]; rw [if_neg (show ¬ aC2 .ne x y = true from fun z => of_decide_eq_true z q)]) (kf q)
  · exact wp_one hd rfl rfl (by simp only [aOne, pI, ht, Option.bind_some, if_true]; rw [if_pos (show aC2 .ne x y = true from decide_eq_true q)]) (kt q)
theorem wp_if_lt {x : Int32} {off : Int} {tgt : Nat} (hd : decode (am_cd m) pc = .ok (.ifCond .lt off, 3)) (ht : aTgt pc off = some tgt) (kt : x < 0 → WP X m tgt L S μ Q) (kf : ¬ x < 0 → WP X m (pc + 3) L S μ Q) : WP X m pc L (.int x :: S) μ Q := by
  by_cases q : x < 0
  · exact wp_one hd rfl rfl (by simp only [aOne, pI, ht, Option.bind_some, if_true]; rw [if_pos (show aC2 .lt x 0 = true from decide_eq_true q)]) (kt q)
  · exact wp_one hd rfl rfl (by simp only [aOne, pI, ht, Option.bind_some, if_true]; rw [if_neg (show ¬ aC2 .lt x 0 = true from fun z => q (of_decide_eq_true z))]) (kf q)
theorem wp_icmp_lt {x y : Int32} {off : Int} {tgt : Nat} (hd : decode (am_cd m) pc = .ok (.if_icmp .lt off, 3)) (ht : aTgt pc off = some tgt) (kt : x < y → WP X m tgt L S μ Q) (kf : ¬ x < y → WP X m (pc + 3) L S μ Q) : WP X m pc L (.int y :: .int x :: S) μ Q := by
  by_cases q : x < y
  · exact wp_one hd rfl rfl (by simp only [aOne, pI, ht, Option.bind_some, if_true]; rw [if_pos (show aC2 .lt x y = true from decide_eq_true q)]) (kt q)
  · exact wp_one hd rfl rfl (by simp only [aOne, pI, ht, Option.bind_some, if_true]; rw [if_neg (show ¬ aC2 .lt x y = true from fun z => q (of_decide_eq_true z))]) (kf q)
theorem wp_if_ge {x : Int32} {off : Int} {tgt : Nat} (hd : decode (am_cd m) pc = .ok (.ifCond .ge off, 3)) (ht : aTgt pc off = some tgt) (kt : 0 ≤ x → WP X m tgt L S μ Q) (kf : ¬ 0 ≤ x → WP X m (pc + 3) L S μ Q) : WP X m pc L (.int x :: S) μ Q := by
  by_cases q : 0 ≤ x
  · exact wp_one hd rfl rfl (by simp only [aOne, pI, ht, Option.bind_some, if_true]; rw [if_pos (show aC2 .ge x 0 = true from decide_eq_true q)]) (kt q)
  · exact wp_one hd rfl rfl (by simp only [aOne, pI, ht, Option.bind_some, if_true]; rw [if_neg (show ¬ aC2 .ge x 0 = true from fun z => q (of_decide_eq_true z))]) (kf q)
theorem wp_icmp_ge {x y : Int32} {off : Int} {tgt : Nat} (hd : decode (am_cd m) pc = .ok (.if_icmp .ge off, 3)) (ht : aTgt pc off = some tgt) (kt : y ≤ x → WP X m tgt L S μ Q) (kf : ¬ y ≤ x → WP X m (pc + 3) L S μ Q) : WP X m pc L (.int y :: .int x :: S) μ Q := by
  by_cases q : y ≤ x
  · exact wp_one hd rfl rfl (by simp only [aOne, pI, ht, Option.bind_some, if_true]; rw [if_pos (show aC2 .ge x y = true from decide_eq_true q)]) (kt q)
  · exact wp_one hd rfl rfl (by simp only [aOne, pI, ht, Option.bind_some, if_true]; rw [if_neg (show ¬ aC2 .ge x y = true from fun z => q (of_decide_eq_true z))]) (kf q)
theorem wp_if_gt {x : Int32} {off : Int} {tgt : Nat} (hd : decode (am_cd m) pc = .ok (.ifCond .gt off, 3)) (ht : aTgt pc off = some tgt) (kt : 0 < x → WP X m tgt L S μ Q) (kf : ¬ 0 < x → WP X m (pc + 3) L S μ Q) : WP X m pc L (.int x :: S) μ Q := by
  by_cases q : 0 < x
  · exact wp_one hd rfl rfl (by simp only [aOne, pI, ht, Option.bind_some, if_true]; rw [if_pos (show aC2 .gt x 0 = true from decide_eq_true q)]) (kt q)
  · exact wp_one hd rfl rfl (by simp only [aOne, pI, ht, Option.bind_some, if_true]; rw [if_neg (show ¬ aC2 .gt x 0 = true from fun z => q (of_decide_eq_true z))]) (kf q)
theorem wp_icmp_gt {x y : Int32} {off : Int} {tgt : Nat} (hd : decode (am_cd m) pc = .ok (.if_icmp .gt off, 3)) (ht : aTgt pc off = some tgt) (kt : y < x → WP X m tgt L S μ Q) (kf : ¬ y < x → WP X m (pc + 3) L S μ Q) : WP X m pc L (.int y :: .int x :: S) μ Q := by
  by_cases q : y < x
  · exact wp_one hd rfl rfl (by simp only [aOne, pI, ht, Option.bind_some, if_true]; rw [if_pos (show aC2 .gt x y = true from decide_eq_true q)]) (kt q)
  · exact wp_one hd rfl rfl (by simp only [aOne, pI, ht, Option.bind_some, if_true]; rw [if_neg (show ¬ aC2 .gt x y = true from fun z => q (of_decide_eq_true z))]) (kf q)
theorem wp_if_le {x : Int32} {off : Int} {tgt : Nat} (hd : decode (am_cd m) pc = .ok (.ifCond .le off, 3)) (ht : aTgt pc off = some tgt) (kt : x ≤ 0 → WP X m tgt L S μ Q) (kf : ¬ x ≤ 0 → WP X m (pc + 3) L S μ Q) : WP X m pc L (.int x :: S) μ Q := by
  by_cases q : x ≤ 0
  · exact wp_one hd rfl rfl (by simp only [aOne, pI, ht, Option.bind_some, if_true]; rw [if_pos (show aC2 .le x 0 = true from decide_eq_true q)]) (kt q)
  · exact wp_one hd rfl rfl (by simp only [aOne, pI, ht, Option.bind_some, if_true]; rw [if_neg (show ¬ aC2 .le x 0 = true from fun z => q (of_decide_eq_true z))]) (kf q)
theorem wp_icmp_le {x y : Int32} {off : Int} {tgt : Nat} (hd : decode (am_cd m) pc = .ok (.if_icmp .le off, 3)) (ht : aTgt pc off = some tgt) (kt : x ≤ y → WP X m tgt L S μ Q) (kf : ¬ x ≤ y → WP X m (pc + 3) L S μ Q) : WP X m pc L (.int y :: .int x :: S) μ Q := by
  by_cases q : x ≤ y
  · exact wp_one hd rfl rfl (by simp only [aOne, pI, ht, Option.bind_some, if_true]; rw [if_pos (show aC2 .le x y = true from decide_eq_true q)]) (kt q)
  · exact wp_one hd rfl rfl (by simp only [aOne, pI, ht, Option.bind_some, if_true]; rw [if_neg (show ¬ aC2 .le x y = true from fun z => q (of_decide_eq_true z))]) (kf q)
theorem wp_goto {off : Int} {tgt : Nat} (hd : decode (am_cd m) pc = .ok (.goto off, 3)) (ht : aTgt pc off = some tgt) (k : WP X m tgt L S μ Q) : WP X m pc L S μ Q := wp_one hd rfl rfl (by simp [aOne, ht]) k
theorem wp_switch {x : Int32} {d lo hi : Int} {offs : Array Int} {len off : Nat} (hd : decode (am_cd m) pc = .ok (.tableswitch d lo hi offs, len)) (kd : (x.toInt < lo ∨ hi < x.toInt) → ∃ t, aTgt pc d = some t ∧ WP X m t L S μ Q) (ki : ∀ j : Nat, ¬ (x.toInt < lo ∨ hi < x.toInt) → x.toInt = lo + j → ∃ off t, offs[j]? = some off ∧ aTgt pc off = some t ∧ WP X m t L S μ Q) : WP X m pc L (.int x :: S) μ Q := by
  by_cases q : x.toInt < lo ∨ hi < x.toInt
  · obtain ⟨t, ht, k⟩ := kd q
    exact wp_one hd rfl rfl (by simp only [aOne, pI, Option.bind_some]; rw [if_pos q, ht]; rfl) k
  · obtain ⟨off, t, h1, h2, k⟩ := ki (x.toInt - lo).toNat q (by omega)
    exact wp_one hd rfl rfl (by simp only [aOne, pI, Option.bind_some]; rw [if_neg q, h1]; simp only [Option.bind_some]; rw [h2]; rfl) k
theorem wp_getI {ix a c j z : Nat} {sl : List (Nat × Nat)} (hd : decode (am_cd m) pc = .ok (.getfield ix, 3)) (hf : aFld (am_k m) ix = some (c, j)) (hs : shp[a]? = some (.inl (c, sl))) (hj : sl[j]? = some (0, z)) (k : WP X m (pc + 3) L (.int (μ.1 a j) :: S) μ Q) : WP X m pc L (.ref a :: S) μ Q := wp_one hd rfl rfl (by simp [aOne, pR, hf, enc_obj hs, hj, slv]) k
theorem wp_getR {ix a c j z : Nat} {sl : List (Nat × Nat)} (hd : decode (am_cd m) pc = .ok (.getfield ix, 3)) (hf : aFld (am_k m) ix = some (c, j)) (hs : shp[a]? = some (.inl (c, sl))) (hj : sl[j]? = some (1, z)) (k : WP X m (pc + 3) L (.ref z :: S) μ Q) : WP X m pc L (.ref a :: S) μ Q := wp_one hd rfl rfl (by simp [aOne, pR, hf, enc_obj hs, hj, slv]) k
theorem wp_getD {ix a c j z : Nat} {sl : List (Nat × Nat)} (hd : decode (am_cd m) pc = .ok (.getfield ix, 3)) (hf : aFld (am_k m) ix = some (c, j)) (hs : shp[a]? = some (.inl (c, sl))) (hj : sl[j]? = some (2, z)) (k : WP X m (pc + 3) L (.ref (μ.2 a j) :: S) μ Q) : WP X m pc L (.ref a :: S) μ Q := wp_one hd rfl rfl (by simp [aOne, pR, hf, enc_obj hs, hj, slv]) k
theorem wp_putI {ix a c j z : Nat} {v : Int32} {sl : List (Nat × Nat)} (hd : decode (am_cd m) pc = .ok (.putfield ix, 3)) (hf : aFld (am_k m) ix = some (c, j)) (hs : shp[a]? = some (.inl (c, sl))) (hj : sl[j]? = some (0, z)) (hty : aFit (.int v) (aTy c j) = true) (hfin : aFin c j = false) (k : WP X m (pc + 3) L S (up2 μ.1 a j v, μ.2) Q) : WP X m pc L (.int v :: .ref a :: S) μ Q := by
  refine wp_one hd rfl rfl ?_ k
  have hl := (List.getElem?_eq_some_iff.mp hj).1
  simp only [aOne, pV, Value.category, pR, hf, enc_obj hs, Option.bind_some, if_true]
  rw [if_pos ⟨trivial, by rw [List.length_mapIdx]; exact hl, hty, fun q => by rw [hfin] at q; cases q⟩]
  rw [enc_putI hs hj]
theorem wp_putD {ix a c j z v : Nat} {sl : List (Nat × Nat)} (hd : decode (am_cd m) pc = .ok (.putfield ix, 3)) (hf : aFld (am_k m) ix = some (c, j)) (hs : shp[a]? = some (.inl (c, sl))) (hj : sl[j]? = some (2, z)) (hty : aFit (.ref v) (aTy c j) = true) (hfin : aFin c j = false) (k : WP X m (pc + 3) L S (μ.1, upR μ.2 a j v) Q) : WP X m pc L (.ref v :: .ref a :: S) μ Q := by
  refine wp_one hd rfl rfl ?_ k
  have hl := (List.getElem?_eq_some_iff.mp hj).1
  simp only [aOne, pV, Value.category, pR, hf, enc_obj hs, Option.bind_some, if_true]
  rw [if_pos ⟨trivial, by rw [List.length_mapIdx]; exact hl, hty, fun q => by rw [hfin] at q; cases q⟩]
  rw [enc_putR hs hj]
theorem wp_gets {ix : Nat} (hd : decode (am_cd m) pc = .ok (.getstatic ix, 3)) (hf : aSta (am_k m) ix = true) (k : WP X m (pc + 3) L (.retAddr 1 :: S) μ Q) : WP X m pc L S μ Q := wp_one hd rfl rfl (by simp [aOne, hf]) k
theorem wp_iald {a n : Nat} {i : Int32} (hd : decode (am_cd m) pc = .ok (.iaload, 1)) (hs : shp[a]? = some (.inr (.inl (0, n)))) (hi : vp_in i n) (k : WP X m (pc + 1) L (.int (μ.1 a i.toNatClampNeg) :: S) μ Q) : WP X m pc L (.int i :: .ref a :: S) μ Q := wp_one hd rfl rfl (by simp [aOne, enc_arI hs, aIn_of hi]) k
theorem wp_sald {z : Nat} {i : Int32} (hd : decode (am_cd m) pc = .ok (.iaload, 1)) (hi : vp_in i (X (min z 1)).1) (k : WP X m (pc + 1) L (.int ((X (min z 1)).2 i.toNatClampNeg) :: S) μ Q) : WP X m pc L (.int i :: .retAddr z :: S) μ Q := wp_one hd rfl rfl (by simp [aOne, aIn_of hi]) k
theorem wp_zald {a n : Nat} {i : Int32} (hd : decode (am_cd m) pc = .ok (.baload, 1)) (hs : shp[a]? = some (.inr (.inl (1, n)))) (hi : vp_in i n) (k : WP X m (pc + 1) L (.int (μ.1 a i.toNatClampNeg) :: S) μ Q) : WP X m pc L (.int i :: .ref a :: S) μ Q := wp_one hd rfl rfl (by simp [aOne, pI, pR, enc_arI hs, aIn_of hi]) k
theorem wp_aald {a n t v : Nat} {rs : List Nat} {i : Int32} (hd : decode (am_cd m) pc = .ok (.aaload, 1)) (hs : shp[a]? = some (.inr (.inr (t, n, rs)))) (hi : vp_in i n) (ht : 2 ≤ t ∧ t < 6) (hv : rs[i.toNatClampNeg]? = some v) (k : WP X m (pc + 1) L (.ref v :: S) μ Q) : WP X m pc L (.int i :: .ref a :: S) μ Q := wp_one hd rfl rfl (by simp [aOne, pI, pR, enc_arR hs, aIn_of hi, ht.1, ht.2, rf0_of hs hv]) k
theorem wp_iast {a n : Nat} {i x : Int32} (hd : decode (am_cd m) pc = .ok (.iastore, 1)) (hs : shp[a]? = some (.inr (.inl (0, n)))) (hi : vp_in i n) (k : WP X m (pc + 1) L S (up2 μ.1 a i.toNatClampNeg x, μ.2) Q) : WP X m pc L (.int x :: .int i :: .ref a :: S) μ Q := by
  refine wp_one hd rfl rfl ?_ k
  simp only [aOne, pI, pR, enc_arI hs, Option.bind_some, if_true, aIn_of hi]
  rw [enc_putA hs]
theorem wp_zast {a n : Nat} {i x v : Int32} (hd : decode (am_cd m) pc = .ok (.bastore, 1)) (hs : shp[a]? = some (.inr (.inl (1, n)))) (hi : vp_in i n) (hv : vp_nar .boolean x = v) (k : WP X m (pc + 1) L S (up2 μ.1 a i.toNatClampNeg v, μ.2) Q) : WP X m pc L (.int x :: .int i :: .ref a :: S) μ Q := by
  refine wp_one hd rfl rfl ?_ k
  simp only [aOne, pI, pR, enc_arI hs, Option.bind_some, if_true, aIn_of hi, hv]
  rw [enc_putA hs]
theorem wp_alen {a t n : Nat} {v : Int32} (hd : decode (am_cd m) pc = .ok (.arraylength, 1)) (hs : shp[a]? = some (.inr (.inl (t, n)))) (ht : t < 6) (hv : Int32.ofNat n = v) (k : WP X m (pc + 1) L (.int v :: S) μ Q) : WP X m pc L (.ref a :: S) μ Q := by
  refine wp_one hd rfl rfl ?_ k
  simp only [aOne, if_true, enc_get hs, cb, ht, hv]
theorem wp_slen {z : Nat} (hd : decode (am_cd m) pc = .ok (.arraylength, 1)) (k : WP X m (pc + 1) L (.int (Int32.ofNat (X (min z 1)).1) :: S) μ Q) : WP X m pc L (.retAddr z :: S) μ Q := wp_one hd rfl rfl rfl k
theorem wp_max {ix : Nat} {x y : Int32} (hd : decode (am_cd m) pc = .ok (.invokestatic ix, 3)) (hq : aMth (am_k m) ix = none) (hm : aMx (am_k m) ix = some true) (hF : 1 ≤ am_F m) (hL : 21 ≤ am_L m) (hc : (S.map fun v => v.category).sum ≤ 8) (k : WP X m (pc + 3) L (.int (if x < y then y else x) :: S) μ Q) : WP X m pc L (.int y :: .int x :: S) μ Q := by
  refine wp_one hd rfl (by simp [aCall, hq]) ?_ k
  simp only [aOne, hF, hL, hm, pI, Option.bind_some, hc, and_self, if_true]
theorem wp_min {ix : Nat} {x y : Int32} (hd : decode (am_cd m) pc = .ok (.invokestatic ix, 3)) (hq : aMth (am_k m) ix = none) (hm : aMx (am_k m) ix = some false) (hF : 1 ≤ am_F m) (hL : 21 ≤ am_L m) (hc : (S.map fun v => v.category).sum ≤ 8) (k : WP X m (pc + 3) L (.int (if y < x then y else x) :: S) μ Q) : WP X m pc L (.int y :: .int x :: S) μ Q := by
  refine wp_one hd rfl (by simp [aCall, hq]) ?_ k
  simp only [aOne, hF, hL, hm, pI, Option.bind_some, hc, and_self, if_true, Bool.false_eq_true, if_false]
def aSpl : Nat → List Value → List Value → Option (List Value × List Value)
  | 0, acc, S => some (acc, S)
  | _ + 1, _, [] => none
  | n + 1, acc, v :: S => aSpl n (v :: acc) S
theorem aSpl_eq : ∀ (n : Nat) {acc S vs rest : List Value}, aSpl n acc S = some (vs, rest) → n ≤ S.length ∧ (S.take n).reverse ++ acc = vs ∧ S.drop n = rest
  | 0, acc, S, vs, rest, e => by cases e; exact ⟨Nat.zero_le _, by simp, rfl⟩
  | n + 1, acc, [], vs, rest, e => by cases e
  | n + 1, acc, v :: S, vs, rest, e => by
    obtain ⟨h1, h2, h3⟩ := aSpl_eq n (acc := v :: acc) e
    refine ⟨by simpa using h1, ?_, h3⟩
    rw [← h2]; simp
theorem wp_callS {ix : Nat} {m2 : aM} {nb : Bool} {vs rest : List Value} (hd : decode (am_cd m) pc = .ok (.invokestatic ix, 3)) (hm : aMth (am_k m) ix = some (m2, nb)) (hst : am_st m2 = true) (hp : aSpl (am_na m2) [] S = some (vs, rest)) (hf : aFits m m2 vs rest = true) (k : WP X m2 0 (lv_args 0 vs) [] μ (fun r μ' => WP X m (pc + 3) L (r.toList ++ rest) μ' Q)) : WP X m pc L S μ Q := by
  obtain ⟨h1, h2, h3⟩ := aSpl_eq _ hp
  rw [List.append_nil] at h2
  refine wp_call hd rfl ?_ k
  simp only [aCall, hm, Option.bind_some, h2, h3, hf, hst, h1, and_self, if_true]
theorem wp_callV {ix b c : Nat} {m2 : aM} {nb : Bool} {vs rest : List Value} {sl : List (Nat × Nat)} (hd : decode (am_cd m) pc = .ok (.invokevirtual ix, 3)) (hm : aMth (am_k m) ix = some (m2, nb)) (hst : am_st m2 = false) (hni : (am_nm m2).name ≠ "<init>") (hp : aSpl (am_na m2) [] S = some (vs, .ref b :: rest)) (hs : shp[b]? = some (.inl (c, sl))) (hc : c = am_k m2) (hf : aFits m m2 (.ref b :: vs) rest = true) (k : WP X m2 0 (lv_args 0 (.ref b :: vs)) [] μ (fun r μ' => WP X m (pc + 3) L (r.toList ++ rest) μ' Q)) : WP X m pc L S μ Q := by
  obtain ⟨h1, h2, h3⟩ := aSpl_eq _ hp
  rw [List.append_nil] at h2
  subst hc
  refine wp_call hd rfl ?_ k
  simp only [aCall, hm, Option.bind_some, h2, h3, hf, hst, hni, h1, enc_obj hs, and_self, if_true, ne_eq, not_false_eq_true]
/-- what a method's locals must tell -/
def aLe (L Lc : aL) : Prop := ∀ k v, aL_get Lc k = some v → aL_get L k = some v
end RULES

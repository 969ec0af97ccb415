/-! type: bytes of a long -/
def bt (w : Int64) (i : Nat) : Nat := w.toBitVec.toNat / 2 ^ (8 * i) % 256
abbrev okB (w : Int64) (i : Nat) : Prop := 32 ≤ bt w i ∧ bt w i ≤ 126
theorem bt_lt (w : Int64) (i : Nat) : bt w i < 256 := Nat.mod_lt _ (by decide)
theorem sh_amt : ∀ i, i < 8 → ((((8 : Int32) * nI i).toInt64 &&& 63).toBitVec.smod 64).toNat = 8 * i := by decide +kernel
theorem sh_amu : ∀ i, i < 8 → (((((8 : Int32) * nI i).toInt64.toUInt64 &&& Int64.toUInt64 63).toBitVec) % 64).toNat = 8 * i := by decide +kernel
theorem b255 : ∀ j, j < 64 → 8 ≤ j → (255#64).getLsbD j = false := by decide +kernel
theorem bvS (w : BitVec 64) {i : Nat} (hi : i < 8) : (w.sshiftRight (8 * i)) &&& 255#64 = (w >>> (8 * i)) &&& 255#64 := by
  apply BitVec.eq_of_getLsbD_eq
  intro j hj
  rw [BitVec.getLsbD_and, BitVec.getLsbD_and]
  by_cases h8 : j < 8
  · rw [BitVec.getLsbD_sshiftRight, BitVec.getLsbD_ushiftRight, if_pos (by omega)]
    rw [decide_eq_false (by omega)]; rfl
  · rw [b255 j hj (by omega), Bool.and_false, Bool.and_false]
theorem mB_l (w : Int64) {i : Nat} (hi : i < 8) : (w >>> (((8 : Int32) * nI i).toInt64 &&& 63)) &&& 255 = lN (bt w i) := by
  apply Int64.toBitVec_inj.mp
  rw [Int64.toBitVec_and, Int64.toBitVec_shiftRight, BitVec.sshiftRight_eq', sh_amt i hi]
  show (w.toBitVec.sshiftRight (8 * i)) &&& 255#64 = _
  rw [bvS _ hi]
  apply BitVec.eq_of_toNat_eq
  rw [BitVec.toNat_and, BitVec.toNat_ushiftRight, Nat.shiftRight_eq_div_pow]
  show w.toBitVec.toNat / 2 ^ (8 * i) &&& (2 ^ 8 - 1) = _
  rw [Nat.and_two_pow_sub_one_eq_mod]
  show _ = (BitVec.ofNat 64 (bt w i)).toNat
  rw [BitVec.toNat_ofNat, Nat.mod_eq_of_lt (Nat.lt_trans (bt_lt w i) (by decide))]
  rfl
theorem lN_toI : ∀ n, n < 256 → (lN n).toInt32 = nI n := by decide +kernel
theorem cB_i (w : Int64) {i : Nat} (hi : i < 8) : ((w.toUInt64 >>> (((8 : Int32) * nI i).toInt64.toUInt64 &&& Int64.toUInt64 63)).toInt64).toInt32 &&& 255 = nI (bt w i) := by
  rw [pk_and _ 8 (by decide)]
  congr 1
  rw [Int64.toBitVec_toInt32, UInt64.toBitVec_toInt64, UInt64.toBitVec_shiftRight, BitVec.signExtend_eq_setWidth_of_le _ (by decide), BitVec.toNat_setWidth, BitVec.ushiftRight_eq', BitVec.toNat_ushiftRight, sh_amu i hi, Nat.shiftRight_eq_div_pow]
  rw [Nat.mod_mod_of_dvd _ (by decide)]
  rfl
theorem in_bt (w : Int64) {i : Nat} (hi : i < 8) : ((32 : Int64).toInt ≤ ((w >>> (((8 : Int32) * nI i).toInt64 &&& 63)) &&& 255).toInt ∧ ((w >>> (((8 : Int32) * nI i).toInt64 &&& 63)) &&& 255).toInt ≤ (126 : Int64).toInt) ↔ okB w i := by
  have hb := bt_lt w i
  rw [mB_l w hi, pk_lT (by omega)]
  have h1 : (32 : Int64).toInt = 32 := by decide
  have h2 : (126 : Int64).toInt = 126 := by decide
  rw [h1, h2]
  unfold okB
  omega
theorem inR_bt (w : Int64) (i : Nat) : inR (nI (bt w i)) (32 : Int32).toInt (126 : Int32).toInt ↔ okB w i := by
  have hb := bt_lt w i
  unfold inR okB
  rw [nI_toInt (by omega)]
  have h1 : (32 : Int32).toInt = 32 := by decide
  have h2 : (126 : Int32).toInt = 126 := by decide
  rw [h1, h2]
  omega
theorem nI_m1 (g : Nat) : nI g - 1 = nI g + Int32.ofInt (-1) := by rw [Int32.sub_eq_add_neg]; rfl
/-- t of n bytes put behind s ones -/
def apG (M : MM) (a c f : Nat) (w : Int64) (n s t : Nat) : MM := fun x y => if x = a ∧ s ≤ y ∧ y < s + t then nI (bt w (n - 1 - (y - s))) else if x = c ∧ y = f then nI (s + t) else M x y
section APG
variable {M : MM} {a c f : Nat} {w : Int64} {n s t x y : Nat}
theorem apG_0 (h : M c f = nI s) : apG M a c f w n s 0 = M := by
  funext x y
  unfold apG
  rw [if_neg (by omega)]
  by_cases z : x = c ∧ y = f
  · rw [if_pos z, z.1, z.2, h]; rfl
  · rw [if_neg z]
theorem apG_s (hac : a ≠ c) : up2 (up2 (apG M a c f w n s t) a (s + t) (nI (bt w (n - 1 - t)))) c f (nI (s + t + 1)) = apG M a c f w n s (t + 1) := by
  funext x y
  unfold up2 apG
  by_cases h1 : x = c ∧ y = f
  · rw [if_pos h1, if_neg (by omega), if_pos h1]; rfl
  · rw [if_neg h1, if_neg h1]
    by_cases h2 : x = a ∧ y = s + t
    · rw [if_pos h2, if_pos (by omega), h2.2, Nat.add_sub_cancel_left]
    · rw [if_neg h2]
      by_cases h3 : x = a ∧ s ≤ y ∧ y < s + t
      · rw [if_pos h3, if_pos (by omega)]
      · rw [if_neg h3, if_neg (by omega), if_neg h1]
theorem apG_ne (h : x ≠ a ∧ x ≠ c) : apG M a c f w n s t x = M x := by
  funext y
  unfold apG
  rw [if_neg (by omega), if_neg (by omega)]
theorem apG_p (h : ¬ (x = a ∧ s ≤ y ∧ y < s + t) ∧ ¬ (x = c ∧ y = f)) : apG M a c f w n s t x y = M x y := by
  unfold apG
  rw [if_neg h.1, if_neg h.2]
theorem apG_c (h : a ≠ c) : apG M a c f w n s t c f = nI (s + t) := by
  unfold apG
  rw [if_neg (by omega), if_pos ⟨rfl, rfl⟩]
theorem apG_in (h : s ≤ y ∧ y < s + t) : apG M a c f w n s t a y = nI (bt w (n - 1 - (y - s))) := if_pos ⟨rfl, h⟩
end APG
section TYPE
variable {X : aX} {μ : Mm} {Q : Option Value → Mm → Prop} {n s : Nat} {w : Int64}
theorem c_X8_byteOf {i : Nat} (hi : i < 8) (k : Q (some (.int (nI (bt w i)))) μ) : WP X mX8_byteOf 0 (lv_args 0 [.long w, .int (nI i)]) [] μ Q := by
  refine wp_lload_n (pc := 0) dX8_byteOf_0 (by first | rfl | assumption | (repeat first | assumption | rfl | refine aG_n ?_ rfl rfl)) ?_
  refine wp_bipush (pc := 1) (v := 8) dX8_byteOf_1 (by decide) ?_
  refine wp_iload_n (pc := 3) dX8_byteOf_3 (by first | rfl | assumption | (repeat first | assumption | rfl | refine aG_n ?_ rfl rfl)) ?_
  refine wp_imul (pc := 4) dX8_byteOf_4 ?_
  refine wp_lushr (pc := 5) dX8_byteOf_5 ?_
  refine wp_l2i (pc := 6) dX8_byteOf_6 ?_
  refine wp_sipush (pc := 7) (v := 255) dX8_byteOf_7 (by decide) ?_
  refine wp_iand (pc := 10) dX8_byteOf_10 ?_
  refine wp_ireturn (pc := 11) dX8_byteOf_11 rfl (by first | rfl | decide | assumption) ?_
  rw [cB_i w hi]; exact k
theorem l_ap1 (hn : n ≤ 8) (k0 : ¬ (∀ j, j < n → okB w j) → Q (some (.int (-1))) μ) (k1 : (∀ j, j < n → okB w j) → ∀ L : aL, aL_get L 0 = some (.ref 2) → aL_get L 1 = some (.long w) → aL_get L 3 = some (.int (nI n)) → WP X mX8_append 45 L [] μ Q) : ∀ (f i : Nat), i + f = n → (∀ j, j < i → okB w j) → ∀ L : aL, aL_get L 0 = some (.ref 2) → aL_get L 1 = some (.long w) → aL_get L 3 = some (.int (nI n)) → aL_get L 4 = some (.int (nI i)) → WP X mX8_append 15 L [] μ Q
  | 0, i, hi, hb, L, g0, g1, g3, g4 => by
    obtain rfl : i = n := by omega
    refine wp_iload (pc := 15) dX8_append_15 (by first | rfl | assumption | (repeat first | assumption | rfl | refine aG_n ?_ rfl rfl)) ?_
    refine wp_iload_n (pc := 17) dX8_append_17 (by first | rfl | assumption | (repeat first | assumption | rfl | refine aG_n ?_ rfl rfl)) ?_
    refine wp_icmp_ge (pc := 18) (tgt := 45) dX8_append_18 rfl (fun _ => ?_) (fun q => absurd (nI_le (by omega) (by omega)) q)
    exact k1 hb _ g0 g1 g3
  | f + 1, i, hi, hb, L, g0, g1, g3, g4 => by
    by_cases c : okB w i
    · refine wp_iload (pc := 15) dX8_append_15 (by first | rfl | assumption | (repeat first | assumption | rfl | refine aG_n ?_ rfl rfl)) ?_
      refine wp_iload_n (pc := 17) dX8_append_17 (by first | rfl | assumption | (repeat first | assumption | rfl | refine aG_n ?_ rfl rfl)) ?_
      refine wp_icmp_ge (pc := 18) (tgt := 45) dX8_append_18 rfl (fun q => absurd q (nI_ge (by omega) (by omega))) (fun _ => ?_)
      refine wp_lload_n (pc := 21) dX8_append_21 (by first | rfl | assumption | (repeat first | assumption | rfl | refine aG_n ?_ rfl rfl)) ?_
      refine wp_iload (pc := 22) dX8_append_22 (by first | rfl | assumption | (repeat first | assumption | rfl | refine aG_n ?_ rfl rfl)) ?_
      refine wp_cS (pc := 24) dX8_append_24 lk_8_19 rfl rfl rfl (c_X8_byteOf (by omega) (aK_i ?_))
      refine wp_bipush (pc := 27) (v := 32) dX8_append_27 (by decide) ?_
      refine wp_bipush (pc := 29) (v := 126) dX8_append_29 (by decide) ?_
      refine wp_cS (pc := 31) dX8_append_31 lk_8_15 rfl rfl rfl (c_X11_isWithin (fun _ => aK_i ?_) (fun q => absurd ((inR_bt w i).mpr c) q))
      refine wp_if_ne (pc := 34) (tgt := 39) dX8_append_34 rfl (fun _ => ?_) (fun q => absurd q (by decide))
      refine wp_iinc (pc := 39) dX8_append_39 (by decide) (by first | rfl | assumption | (repeat first | assumption | rfl | refine aG_n ?_ rfl rfl)) rfl ?_
      refine wp_goto (pc := 42) (tgt := 15) dX8_append_42 rfl ?_
      exact l_ap1 hn k0 k1 f (i + 1) (by omega) (fun j hj => if e : j = i then e ▸ c else hb j (by omega)) _ (by first | rfl | assumption | (repeat first | assumption | rfl | refine aG_n ?_ rfl rfl)) (by first | rfl | assumption | (repeat first | assumption | rfl | refine aG_n ?_ rfl rfl)) (by first | rfl | assumption | (repeat first | assumption | rfl | refine aG_n ?_ rfl rfl)) (by rw [← nI_i1]; first | rfl | assumption | (repeat first | assumption | rfl | refine aG_n ?_ rfl rfl))
    · refine wp_iload (pc := 15) dX8_append_15 (by first | rfl | assumption | (repeat first | assumption | rfl | refine aG_n ?_ rfl rfl)) ?_
      refine wp_iload_n (pc := 17) dX8_append_17 (by first | rfl | assumption | (repeat first | assumption | rfl | refine aG_n ?_ rfl rfl)) ?_
      refine wp_icmp_ge (pc := 18) (tgt := 45) dX8_append_18 rfl (fun q => absurd q (nI_ge (by omega) (by omega))) (fun _ => ?_)
      refine wp_lload_n (pc := 21) dX8_append_21 (by first | rfl | assumption | (repeat first | assumption | rfl | refine aG_n ?_ rfl rfl)) ?_
      refine wp_iload (pc := 22) dX8_append_22 (by first | rfl | assumption | (repeat first | assumption | rfl | refine aG_n ?_ rfl rfl)) ?_
      refine wp_cS (pc := 24) dX8_append_24 lk_8_19 rfl rfl rfl (c_X8_byteOf (by omega) (aK_i ?_))
      refine wp_bipush (pc := 27) (v := 32) dX8_append_27 (by decide) ?_
      refine wp_bipush (pc := 29) (v := 126) dX8_append_29 (by decide) ?_
      refine wp_cS (pc := 31) dX8_append_31 lk_8_15 rfl rfl rfl (c_X11_isWithin (fun q => absurd q (fun z => c ((inR_bt w i).mp z))) (fun _ => aK_i ?_))
      refine wp_if_ne (pc := 34) (tgt := 39) dX8_append_34 rfl (fun q => absurd q (by decide)) (fun _ => ?_)
      refine wp_iconst (pc := 37) (v := -1) dX8_append_37 (by decide) ?_
      refine wp_ireturn (pc := 38) dX8_append_38 rfl (by first | rfl | decide | assumption) ?_
      exact k0 (fun z => c (z i (by omega)))
theorem l_ap2 (hn : n ≤ 8) (hs : s + n ≤ 90) (k : Q (some (.int (nI (s + n)))) (apG μ.1 3 2 1 w n s n, μ.2)) : ∀ (g t : Nat), t + g = n → ∀ L : aL, aL_get L 0 = some (.ref 2) → aL_get L 1 = some (.long w) → aL_get L 4 = some (.int (nI g - 1)) → WP X mX8_append 64 L [] (apG μ.1 3 2 1 w n s t, μ.2) Q
  | 0, t, ht, L, g0, g1, g4 => by
    obtain rfl : t = n := by omega
    refine wp_iload (pc := 64) dX8_append_64 (by first | rfl | assumption | (repeat first | assumption | rfl | refine aG_n ?_ rfl rfl)) ?_
    refine wp_if_lt (pc := 66) (tgt := 100) dX8_append_66 rfl (fun _ => ?_) (fun q => absurd (by decide) q)
    refine wp_aload_n (pc := 100) dX8_append_100 (by first | rfl | assumption | (repeat first | assumption | rfl | refine aG_n ?_ rfl rfl)) ?_
    refine wp_getI (pc := 101) dX8_append_101 fl_8_23 (by first | rfl | assumption | exact sh_house (by omega) | exact sh_wish (by omega) | exact sh_wor (by omega) | exact sh_bar (by omega) | exact sh_term (by omega) | exact sh_sheet (by omega) | exact sh_items (by omega) | exact sh_sums (by omega)) rfl ?_
    refine wp_ireturn (pc := 104) dX8_append_104 rfl (by first | rfl | decide | assumption) ?_
    refine qEq ?_ k
    dsimp only
    exact apG_c (a := 3) (c := 2) (by decide)
  | g + 1, t, ht, L, g0, g1, g4 => by
    rw [nI_pred] at g4
    have e1 : apG μ.1 3 2 1 w n s t 2 1 = nI (s + t) := apG_c (a := 3) (c := 2) (by decide)
    have cs : (nI (s + t)).toNatClampNeg = s + t := nI_clamp (by omega)
    have eg : nI (bt w g) = nI (bt w (n - 1 - t)) := by rw [show g = n - 1 - t by omega]
    refine wp_iload (pc := 64) dX8_append_64 (by first | rfl | assumption | (repeat first | assumption | rfl | refine aG_n ?_ rfl rfl)) ?_
    refine wp_if_lt (pc := 66) (tgt := 100) dX8_append_66 rfl (fun q => absurd q (nI_pos (by omega))) (fun _ => ?_)
    refine wp_aload_n (pc := 69) dX8_append_69 (by first | rfl | assumption | (repeat first | assumption | rfl | refine aG_n ?_ rfl rfl)) ?_
    refine wp_getR (pc := 70) dX8_append_70 fl_8_11 (by first | rfl | assumption | exact sh_house (by omega) | exact sh_wish (by omega) | exact sh_wor (by omega) | exact sh_bar (by omega) | exact sh_term (by omega) | exact sh_sheet (by omega) | exact sh_items (by omega) | exact sh_sums (by omega)) rfl ?_
    refine wp_aload_n (pc := 73) dX8_append_73 (by first | rfl | assumption | (repeat first | assumption | rfl | refine aG_n ?_ rfl rfl)) ?_
    refine wp_getI (pc := 74) dX8_append_74 fl_8_23 (by first | rfl | assumption | exact sh_house (by omega) | exact sh_wish (by omega) | exact sh_wor (by omega) | exact sh_bar (by omega) | exact sh_term (by omega) | exact sh_sheet (by omega) | exact sh_items (by omega) | exact sh_sums (by omega)) rfl ?_
    refine wp_lload_n (pc := 77) dX8_append_77 (by first | rfl | assumption | (repeat first | assumption | rfl | refine aG_n ?_ rfl rfl)) ?_
    refine wp_iload (pc := 78) dX8_append_78 (by first | rfl | assumption | (repeat first | assumption | rfl | refine aG_n ?_ rfl rfl)) ?_
    refine wp_cS (pc := 80) dX8_append_80 lk_8_19 rfl rfl rfl (c_X8_byteOf (by omega) (aK_i ?_))
    refine wp_iast (pc := 83) dX8_append_83 (by first | rfl | assumption | exact sh_house (by omega) | exact sh_wish (by omega) | exact sh_wor (by omega) | exact sh_bar (by omega) | exact sh_term (by omega) | exact sh_sheet (by omega) | exact sh_items (by omega) | exact sh_sums (by omega)) (by dsimp only; rw [e1]; exact vp_in_nI (by omega) (by decide)) ?_
    refine wp_aload_n (pc := 84) dX8_append_84 (by first | rfl | assumption | (repeat first | assumption | rfl | refine aG_n ?_ rfl rfl)) ?_
    refine wp_dupr (pc := 85) dX8_append_85 ?_
    refine wp_getI (pc := 86) dX8_append_86 fl_8_23 (by first | rfl | assumption | exact sh_house (by omega) | exact sh_wish (by omega) | exact sh_wor (by omega) | exact sh_bar (by omega) | exact sh_term (by omega) | exact sh_sheet (by omega) | exact sh_items (by omega) | exact sh_sums (by omega)) rfl ?_
    refine wp_iconst (pc := 89) (v := 1) dX8_append_89 (by decide) ?_
    refine wp_iadd (pc := 90) dX8_append_90 ?_
    refine wp_putI (pc := 91) dX8_append_91 fl_8_23 (by first | rfl | assumption | exact sh_house (by omega) | exact sh_wish (by omega) | exact sh_wor (by omega) | exact sh_bar (by omega) | exact sh_term (by omega) | exact sh_sheet (by omega) | exact sh_items (by omega) | exact sh_sums (by omega)) rfl rfl rfl ?_
    refine wp_iinc (pc := 94) dX8_append_94 (by decide) (by first | rfl | assumption | (repeat first | assumption | rfl | refine aG_n ?_ rfl rfl)) rfl ?_
    refine wp_goto (pc := 97) (tgt := 64) dX8_append_97 rfl ?_
    skip
    dsimp only
    rw [e1, cs, up2_ne (show 2 ≠ 3 by decide), e1, nI_1, eg, apG_s (by decide)]
    exact l_ap2 hn hs k g (t + 1) (by omega) _ (by first | rfl | assumption | (repeat first | assumption | rfl | refine aG_n ?_ rfl rfl)) (by first | rfl | assumption | (repeat first | assumption | rfl | refine aG_n ?_ rfl rfl)) (by rw [nI_m1]; first | rfl | assumption | (repeat first | assumption | rfl | refine aG_n ?_ rfl rfl))
theorem c_ap_ok (h1 : 1 ≤ n) (hn : n ≤ 8) (hs : s ≤ 90) (h21 : μ.1 2 1 = nI s) (hb : ∀ j, j < n → okB w j) (k0 : 90 < s + n → Q (some (.int (-3))) μ) (k1 : s + n ≤ 90 → Q (some (.int (nI (s + n)))) (apG μ.1 3 2 1 w n s n, μ.2)) : WP X mX8_append 0 (lv_args 0 [.ref 2, .long w, .int (nI n)]) [] μ Q := by
  have c1 : inR (nI n) (1 : Int32).toInt (8 : Int32).toInt := by
    unfold inR; rw [nI_toInt (by omega)]
    have q1 : (1 : Int32).toInt = 1 := by decide
    have q2 : (8 : Int32).toInt = 8 := by decide
    omega
  refine wp_iload_n (pc := 0) dX8_append_0 (by first | rfl | assumption | (repeat first | assumption | rfl | refine aG_n ?_ rfl rfl)) ?_
  refine wp_iconst (pc := 1) (v := 1) dX8_append_1 (by decide) ?_
  refine wp_bipush (pc := 2) (v := 8) dX8_append_2 (by decide) ?_
  refine wp_cS (pc := 4) dX8_append_4 lk_8_15 rfl rfl rfl (c_X11_isWithin (fun _ => aK_i ?_) (fun q => absurd c1 q))
  refine wp_if_ne (pc := 7) (tgt := 12) dX8_append_7 rfl (fun _ => ?_) (fun q => absurd q (by decide))
  refine wp_iconst (pc := 12) (v := 0) dX8_append_12 (by decide) ?_
  refine wp_istore (pc := 13) dX8_append_13 (by decide) ?_
  refine l_ap1 hn (fun q => absurd hb q) (fun _ L g0 g1 g3 => ?_) n 0 (by omega) (fun j hj => absurd hj (by omega)) _ (by first | rfl | assumption | (repeat first | assumption | rfl | refine aG_n ?_ rfl rfl)) (by first | rfl | assumption | (repeat first | assumption | rfl | refine aG_n ?_ rfl rfl)) (by first | rfl | assumption | (repeat first | assumption | rfl | refine aG_n ?_ rfl rfl)) (by first | rfl | assumption | (repeat first | assumption | rfl | refine aG_n ?_ rfl rfl))
  by_cases c : s + n ≤ 90
  · refine wp_aload_n (pc := 45) dX8_append_45 (by first | rfl | assumption | (repeat first | assumption | rfl | refine aG_n ?_ rfl rfl)) ?_
    refine wp_getI (pc := 46) dX8_append_46 fl_8_23 (by first | rfl | assumption | exact sh_house (by omega) | exact sh_wish (by omega) | exact sh_wor (by omega) | exact sh_bar (by omega) | exact sh_term (by omega) | exact sh_sheet (by omega) | exact sh_items (by omega) | exact sh_sums (by omega)) rfl ?_
    refine wp_iload_n (pc := 49) dX8_append_49 (by first | rfl | assumption | (repeat first | assumption | rfl | refine aG_n ?_ rfl rfl)) ?_
    refine wp_iadd (pc := 50) dX8_append_50 ?_
    refine wp_bipush (pc := 51) (v := 90) dX8_append_51 (by decide) ?_
    refine wp_icmp_le (pc := 53) (tgt := 59) dX8_append_53 rfl (fun _ => ?_) (fun q => absurd (by rw [h21, nI_add]; exact nI_le (b := 90) (by omega) (by omega)) q)
    refine wp_iload_n (pc := 59) dX8_append_59 (by first | rfl | assumption | (repeat first | assumption | rfl | refine aG_n ?_ rfl rfl)) ?_
    refine wp_iconst (pc := 60) (v := 1) dX8_append_60 (by decide) ?_
    refine wp_isub (pc := 61) dX8_append_61 ?_
    refine wp_istore (pc := 62) dX8_append_62 (by decide) ?_
    skip
    have := l_ap2 (X := X) hn c (k1 c) n 0 (by omega)
    rw [apG_0 h21] at this
    exact this _ (by first | rfl | assumption | (repeat first | assumption | rfl | refine aG_n ?_ rfl rfl)) (by first | rfl | assumption | (repeat first | assumption | rfl | refine aG_n ?_ rfl rfl)) (by first | rfl | assumption | (repeat first | assumption | rfl | refine aG_n ?_ rfl rfl))
  · refine wp_aload_n (pc := 45) dX8_append_45 (by first | rfl | assumption | (repeat first | assumption | rfl | refine aG_n ?_ rfl rfl)) ?_
    refine wp_getI (pc := 46) dX8_append_46 fl_8_23 (by first | rfl | assumption | exact sh_house (by omega) | exact sh_wish (by omega) | exact sh_wor (by omega) | exact sh_bar (by omega) | exact sh_term (by omega) | exact sh_sheet (by omega) | exact sh_items (by omega) | exact sh_sums (by omega)) rfl ?_
    refine wp_iload_n (pc := 49) dX8_append_49 (by first | rfl | assumption | (repeat first | assumption | rfl | refine aG_n ?_ rfl rfl)) ?_
    refine wp_iadd (pc := 50) dX8_append_50 ?_
    refine wp_bipush (pc := 51) (v := 90) dX8_append_51 (by decide) ?_
    refine wp_icmp_le (pc := 53) (tgt := 59) dX8_append_53 rfl (fun q => absurd q (by rw [h21, nI_add]; exact nI_ge (a := 90) (by omega) (by omega))) (fun _ => ?_)
    refine wp_bipush (pc := 56) (v := -3) dX8_append_56 (by decide) ?_
    refine wp_ireturn (pc := 58) dX8_append_58 rfl (by first | rfl | decide | assumption) ?_
    exact k0 (by omega)
def tyB (w : Int64) (v : Int32) : Prop := ∃ m, 1 ≤ m ∧ m ≤ 8 ∧ v = nI m ∧ ∀ j, j < m → okB w j
theorem in_18 {v : Int32} : inR v 1 8 ↔ ∃ m, 1 ≤ m ∧ m ≤ 8 ∧ v = nI m := by
  constructor
  · intro h
    obtain ⟨j, hj, rfl⟩ := inR_of (n := 8) ⟨by have := h.1; omega, h.2⟩
    have h1 := h.1
    rw [nI_toInt (by omega)] at h1
    exact ⟨j, by omega, hj, rfl⟩
  · rintro ⟨m, h1, h2, rfl⟩
    unfold inR; rw [nI_toInt (by omega)]; omega
theorem c_ap_bad {v : Int32} (hb : ¬ tyB w v) (k : Q (some (.int (-1))) μ) : WP X mX8_append 0 (lv_args 0 [.ref 2, .long w, .int v]) [] μ Q := by
  by_cases c : inR v 1 8
  · obtain ⟨m, h1, h2, rfl⟩ := in_18.mp c
    have hb' : ¬ ∀ j, j < m → okB w j := fun z => hb ⟨m, h1, h2, rfl, z⟩
    refine wp_iload_n (pc := 0) dX8_append_0 (by first | rfl | assumption | (repeat first | assumption | rfl | refine aG_n ?_ rfl rfl)) ?_
    refine wp_iconst (pc := 1) (v := 1) dX8_append_1 (by decide) ?_
    refine wp_bipush (pc := 2) (v := 8) dX8_append_2 (by decide) ?_
    refine wp_cS (pc := 4) dX8_append_4 lk_8_15 rfl rfl rfl (c_X11_isWithin (fun _ => aK_i ?_) (fun q => absurd c q))
    refine wp_if_ne (pc := 7) (tgt := 12) dX8_append_7 rfl (fun _ => ?_) (fun q => absurd q (by decide))
    refine wp_iconst (pc := 12) (v := 0) dX8_append_12 (by decide) ?_
    refine wp_istore (pc := 13) dX8_append_13 (by decide) ?_
    exact l_ap1 h2 (fun _ => k) (fun q => absurd q hb') m 0 (by omega) (fun j hj => absurd hj (by omega)) _ (by first | rfl | assumption | (repeat first | assumption | rfl | refine aG_n ?_ rfl rfl)) (by first | rfl | assumption | (repeat first | assumption | rfl | refine aG_n ?_ rfl rfl)) (by first | rfl | assumption | (repeat first | assumption | rfl | refine aG_n ?_ rfl rfl)) (by first | rfl | assumption | (repeat first | assumption | rfl | refine aG_n ?_ rfl rfl))
  · refine wp_iload_n (pc := 0) dX8_append_0 (by first | rfl | assumption | (repeat first | assumption | rfl | refine aG_n ?_ rfl rfl)) ?_
    refine wp_iconst (pc := 1) (v := 1) dX8_append_1 (by decide) ?_
    refine wp_bipush (pc := 2) (v := 8) dX8_append_2 (by decide) ?_
    refine wp_cS (pc := 4) dX8_append_4 lk_8_15 rfl rfl rfl (c_X11_isWithin (fun q => absurd q c) (fun _ => aK_i ?_))
    refine wp_if_ne (pc := 7) (tgt := 12) dX8_append_7 rfl (fun q => absurd q (by decide)) (fun _ => ?_)
    refine wp_iconst (pc := 10) (v := -1) dX8_append_10 (by decide) ?_
    refine wp_ireturn (pc := 11) dX8_append_11 rfl (by first | rfl | decide | assumption) ?_
    exact k
/-! the model's -/
theorem l_ty1 (hn : n ≤ 8) (k0 : ¬ (∀ j, j < n → okB w j) → Q (some (.int (-1))) μ) (k1 : (∀ j, j < n → okB w j) → ∀ L : aL, aL_get L 0 = some (.ref 86) → aL_get L 1 = some (.long w) → aL_get L 3 = some (.int (nI n)) → WP X mX12_type 55 L [] μ Q) : ∀ (g : Nat), g ≤ n → (∀ j, g ≤ j → j < n → okB w j) → ∀ L : aL, aL_get L 0 = some (.ref 86) → aL_get L 1 = some (.long w) → aL_get L 3 = some (.int (nI n)) → aL_get L 4 = some (.int (nI g - 1)) → WP X mX12_type 19 L [] μ Q
  | 0, hg, hb, L, g0, g1, g3, g4 => by
    refine wp_iload (pc := 19) dX12_type_19 (by first | rfl | assumption | (repeat first | assumption | rfl | refine aG_n ?_ rfl rfl)) ?_
    refine wp_if_lt (pc := 21) (tgt := 55) dX12_type_21 rfl (fun _ => ?_) (fun q => absurd (by decide) q)
    exact k1 (fun j hj => hb j (Nat.zero_le _) hj) _ g0 g1 g3
  | g + 1, hg, hb, L, g0, g1, g3, g4 => by
    rw [nI_pred] at g4
    by_cases c : okB w g
    · refine wp_iload (pc := 19) dX12_type_19 (by first | rfl | assumption | (repeat first | assumption | rfl | refine aG_n ?_ rfl rfl)) ?_
      refine wp_if_lt (pc := 21) (tgt := 55) dX12_type_21 rfl (fun q => absurd q (nI_pos (by omega))) (fun _ => ?_)
      refine wp_lload_n (pc := 24) dX12_type_24 (by first | rfl | assumption | (repeat first | assumption | rfl | refine aG_n ?_ rfl rfl)) ?_
      refine wp_bipush (pc := 25) (v := 8) dX12_type_25 (by decide) ?_
      refine wp_iload (pc := 27) dX12_type_27 (by first | rfl | assumption | (repeat first | assumption | rfl | refine aG_n ?_ rfl rfl)) ?_
      refine wp_imul (pc := 29) dX12_type_29 ?_
      refine wp_lshr (pc := 30) dX12_type_30 ?_
      refine wp_ldc2 (pc := 31) dX12_type_31 cl_12_155 ?_
      refine wp_land (pc := 34) dX12_type_34 ?_
      refine wp_ldc2 (pc := 35) dX12_type_35 cl_12_157 ?_
      refine wp_ldc2 (pc := 38) dX12_type_38 cl_12_159 ?_
      refine wp_cS (pc := 41) dX12_type_41 lk_12_133 rfl rfl rfl (c_X12_in (fun _ => aK_i ?_) (fun q => absurd ((in_bt w (by omega)).mpr c) q))
      refine wp_if_ne (pc := 44) (tgt := 49) dX12_type_44 rfl (fun _ => ?_) (fun q => absurd q (by decide))
      refine wp_iinc (pc := 49) dX12_type_49 (by decide) (by first | rfl | assumption | (repeat first | assumption | rfl | refine aG_n ?_ rfl rfl)) rfl ?_
      refine wp_goto (pc := 52) (tgt := 19) dX12_type_52 rfl ?_
      exact l_ty1 hn k0 k1 g (by omega) (fun j hj hj2 => if e : j = g then e ▸ c else hb j (by omega) hj2) _ (by first | rfl | assumption | (repeat first | assumption | rfl | refine aG_n ?_ rfl rfl)) (by first | rfl | assumption | (repeat first | assumption | rfl | refine aG_n ?_ rfl rfl)) (by first | rfl | assumption | (repeat first | assumption | rfl | refine aG_n ?_ rfl rfl)) (by rw [nI_m1]; first | rfl | assumption | (repeat first | assumption | rfl | refine aG_n ?_ rfl rfl))
    · refine wp_iload (pc := 19) dX12_type_19 (by first | rfl | assumption | (repeat first | assumption | rfl | refine aG_n ?_ rfl rfl)) ?_
      refine wp_if_lt (pc := 21) (tgt := 55) dX12_type_21 rfl (fun q => absurd q (nI_pos (by omega))) (fun _ => ?_)
      refine wp_lload_n (pc := 24) dX12_type_24 (by first | rfl | assumption | (repeat first | assumption | rfl | refine aG_n ?_ rfl rfl)) ?_
      refine wp_bipush (pc := 25) (v := 8) dX12_type_25 (by decide) ?_
      refine wp_iload (pc := 27) dX12_type_27 (by first | rfl | assumption | (repeat first | assumption | rfl | refine aG_n ?_ rfl rfl)) ?_
      refine wp_imul (pc := 29) dX12_type_29 ?_
      refine wp_lshr (pc := 30) dX12_type_30 ?_
      refine wp_ldc2 (pc := 31) dX12_type_31 cl_12_155 ?_
      refine wp_land (pc := 34) dX12_type_34 ?_
      refine wp_ldc2 (pc := 35) dX12_type_35 cl_12_157 ?_
      refine wp_ldc2 (pc := 38) dX12_type_38 cl_12_159 ?_
      refine wp_cS (pc := 41) dX12_type_41 lk_12_133 rfl rfl rfl (c_X12_in (fun q => absurd q (fun z => c ((in_bt w (by omega)).mp z))) (fun _ => aK_i ?_))
      refine wp_if_ne (pc := 44) (tgt := 49) dX12_type_44 rfl (fun q => absurd q (by decide)) (fun _ => ?_)
      refine wp_iconst (pc := 47) (v := -1) dX12_type_47 (by decide) ?_
      refine wp_ireturn (pc := 48) dX12_type_48 rfl (by first | rfl | decide | assumption) ?_
      exact k0 (fun z => c (z g (by omega)))
theorem l_ty2 (hn : n ≤ 8) (hs : s + n ≤ 90) (k : Q (some (.int (nI (s + n)))) (apG μ.1 96 86 10 w n s n, μ.2)) : ∀ (g t : Nat), t + g = n → ∀ L : aL, aL_get L 0 = some (.ref 86) → aL_get L 1 = some (.long w) → aL_get L 4 = some (.int (nI g - 1)) → WP X mX12_type 74 L [] (apG μ.1 96 86 10 w n s t, μ.2) Q
  | 0, t, ht, L, g0, g1, g4 => by
    obtain rfl : t = n := by omega
    refine wp_iload (pc := 74) dX12_type_74 (by first | rfl | assumption | (repeat first | assumption | rfl | refine aG_n ?_ rfl rfl)) ?_
    refine wp_if_lt (pc := 76) (tgt := 116) dX12_type_76 rfl (fun _ => ?_) (fun q => absurd (by decide) q)
    refine wp_aload_n (pc := 116) dX12_type_116 (by first | rfl | assumption | (repeat first | assumption | rfl | refine aG_n ?_ rfl rfl)) ?_
    refine wp_getI (pc := 117) dX12_type_117 fl_12_161 (by first | rfl | assumption | exact sh_house (by omega) | exact sh_wish (by omega) | exact sh_wor (by omega) | exact sh_bar (by omega) | exact sh_term (by omega) | exact sh_sheet (by omega) | exact sh_items (by omega) | exact sh_sums (by omega)) rfl ?_
    refine wp_ireturn (pc := 120) dX12_type_120 rfl (by first | rfl | decide | assumption) ?_
    refine qEq ?_ k
    dsimp only
    exact apG_c (a := 96) (c := 86) (by decide)
  | g + 1, t, ht, L, g0, g1, g4 => by
    rw [nI_pred] at g4
    have e1 : apG μ.1 96 86 10 w n s t 86 10 = nI (s + t) := apG_c (a := 96) (c := 86) (by decide)
    have cs : (nI (s + t)).toNatClampNeg = s + t := nI_clamp (by omega)
    have eg : nI (bt w g) = nI (bt w (n - 1 - t)) := by rw [show g = n - 1 - t by omega]
    refine wp_iload (pc := 74) dX12_type_74 (by first | rfl | assumption | (repeat first | assumption | rfl | refine aG_n ?_ rfl rfl)) ?_
    refine wp_if_lt (pc := 76) (tgt := 116) dX12_type_76 rfl (fun q => absurd q (nI_pos (by omega))) (fun _ => ?_)
    refine wp_aload_n (pc := 79) dX12_type_79 (by first | rfl | assumption | (repeat first | assumption | rfl | refine aG_n ?_ rfl rfl)) ?_
    refine wp_getR (pc := 80) dX12_type_80 fl_12_38 (by first | rfl | assumption | exact sh_house (by omega) | exact sh_wish (by omega) | exact sh_wor (by omega) | exact sh_bar (by omega) | exact sh_term (by omega) | exact sh_sheet (by omega) | exact sh_items (by omega) | exact sh_sums (by omega)) rfl ?_
    refine wp_aload_n (pc := 83) dX12_type_83 (by first | rfl | assumption | (repeat first | assumption | rfl | refine aG_n ?_ rfl rfl)) ?_
    refine wp_getI (pc := 84) dX12_type_84 fl_12_161 (by first | rfl | assumption | exact sh_house (by omega) | exact sh_wish (by omega) | exact sh_wor (by omega) | exact sh_bar (by omega) | exact sh_term (by omega) | exact sh_sheet (by omega) | exact sh_items (by omega) | exact sh_sums (by omega)) rfl ?_
    refine wp_lload_n (pc := 87) dX12_type_87 (by first | rfl | assumption | (repeat first | assumption | rfl | refine aG_n ?_ rfl rfl)) ?_
    refine wp_bipush (pc := 88) (v := 8) dX12_type_88 (by decide) ?_
    refine wp_iload (pc := 90) dX12_type_90 (by first | rfl | assumption | (repeat first | assumption | rfl | refine aG_n ?_ rfl rfl)) ?_
    refine wp_imul (pc := 92) dX12_type_92 ?_
    refine wp_lshr (pc := 93) dX12_type_93 ?_
    refine wp_ldc2 (pc := 94) dX12_type_94 cl_12_155 ?_
    refine wp_land (pc := 97) dX12_type_97 ?_
    refine wp_l2i (pc := 98) dX12_type_98 ?_
    refine wp_iast (pc := 99) dX12_type_99 (by first | rfl | assumption | exact sh_house (by omega) | exact sh_wish (by omega) | exact sh_wor (by omega) | exact sh_bar (by omega) | exact sh_term (by omega) | exact sh_sheet (by omega) | exact sh_items (by omega) | exact sh_sums (by omega)) (by dsimp only; rw [e1]; exact vp_in_nI (by omega) (by decide)) ?_
    refine wp_aload_n (pc := 100) dX12_type_100 (by first | rfl | assumption | (repeat first | assumption | rfl | refine aG_n ?_ rfl rfl)) ?_
    refine wp_dupr (pc := 101) dX12_type_101 ?_
    refine wp_getI (pc := 102) dX12_type_102 fl_12_161 (by first | rfl | assumption | exact sh_house (by omega) | exact sh_wish (by omega) | exact sh_wor (by omega) | exact sh_bar (by omega) | exact sh_term (by omega) | exact sh_sheet (by omega) | exact sh_items (by omega) | exact sh_sums (by omega)) rfl ?_
    refine wp_iconst (pc := 105) (v := 1) dX12_type_105 (by decide) ?_
    refine wp_iadd (pc := 106) dX12_type_106 ?_
    refine wp_putI (pc := 107) dX12_type_107 fl_12_161 (by first | rfl | assumption | exact sh_house (by omega) | exact sh_wish (by omega) | exact sh_wor (by omega) | exact sh_bar (by omega) | exact sh_term (by omega) | exact sh_sheet (by omega) | exact sh_items (by omega) | exact sh_sums (by omega)) rfl rfl rfl ?_
    refine wp_iinc (pc := 110) dX12_type_110 (by decide) (by first | rfl | assumption | (repeat first | assumption | rfl | refine aG_n ?_ rfl rfl)) rfl ?_
    refine wp_goto (pc := 113) (tgt := 74) dX12_type_113 rfl ?_
    skip
    dsimp only
    rw [e1, cs, up2_ne (show 86 ≠ 96 by decide), e1, nI_1, mB_l w (show g < 8 by omega), lN_toI _ (bt_lt w g), eg, apG_s (by decide)]
    exact l_ty2 hn hs k g (t + 1) (by omega) _ (by first | rfl | assumption | (repeat first | assumption | rfl | refine aG_n ?_ rfl rfl)) (by first | rfl | assumption | (repeat first | assumption | rfl | refine aG_n ?_ rfl rfl)) (by rw [nI_m1]; first | rfl | assumption | (repeat first | assumption | rfl | refine aG_n ?_ rfl rfl))
theorem c_ty_ok (h1 : 1 ≤ n) (hn : n ≤ 8) (hs : s ≤ 90) (h86 : μ.1 86 10 = nI s) (hb : ∀ j, j < n → okB w j) (k0 : 90 < s + n → Q (some (.int (-3))) μ) (k1 : s + n ≤ 90 → Q (some (.int (nI (s + n)))) (apG μ.1 96 86 10 w n s n, μ.2)) : WP X mX12_type 0 (lv_args 0 [.ref 86, .long w, .int (nI n)]) [] μ Q := by
  have c1 : (1 : Int64).toInt ≤ (nI n).toInt64.toInt ∧ (nI n).toInt64.toInt ≤ (8 : Int64).toInt := by
    rw [w_int, nI_toInt (by omega)]
    have q1 : (1 : Int64).toInt = 1 := by decide
    have q2 : (8 : Int64).toInt = 8 := by decide
    omega
  refine wp_iload_n (pc := 0) dX12_type_0 (by first | rfl | assumption | (repeat first | assumption | rfl | refine aG_n ?_ rfl rfl)) ?_
  refine wp_i2l (pc := 1) dX12_type_1 ?_
  refine wp_lconst (pc := 2) (v := 1) dX12_type_2 (by decide) ?_
  refine wp_ldc2 (pc := 3) dX12_type_3 cl_12_153 ?_
  refine wp_cS (pc := 6) dX12_type_6 lk_12_133 rfl rfl rfl (c_X12_in (fun _ => aK_i ?_) (fun q => absurd c1 q))
  refine wp_if_ne (pc := 9) (tgt := 14) dX12_type_9 rfl (fun _ => ?_) (fun q => absurd q (by decide))
  refine wp_iload_n (pc := 14) dX12_type_14 (by first | rfl | assumption | (repeat first | assumption | rfl | refine aG_n ?_ rfl rfl)) ?_
  refine wp_iconst (pc := 15) (v := 1) dX12_type_15 (by decide) ?_
  refine wp_isub (pc := 16) dX12_type_16 ?_
  refine wp_istore (pc := 17) dX12_type_17 (by decide) ?_
  refine l_ty1 hn (fun q => absurd hb q) (fun _ L g0 g1 g3 => ?_) n (Nat.le_refl _) (fun j hj hj2 => absurd hj (by omega)) _ (by first | rfl | assumption | (repeat first | assumption | rfl | refine aG_n ?_ rfl rfl)) (by first | rfl | assumption | (repeat first | assumption | rfl | refine aG_n ?_ rfl rfl)) (by first | rfl | assumption | (repeat first | assumption | rfl | refine aG_n ?_ rfl rfl)) (by first | rfl | assumption | (repeat first | assumption | rfl | refine aG_n ?_ rfl rfl))
  by_cases c : s + n ≤ 90
  · refine wp_aload_n (pc := 55) dX12_type_55 (by first | rfl | assumption | (repeat first | assumption | rfl | refine aG_n ?_ rfl rfl)) ?_
    refine wp_getI (pc := 56) dX12_type_56 fl_12_161 (by first | rfl | assumption | exact sh_house (by omega) | exact sh_wish (by omega) | exact sh_wor (by omega) | exact sh_bar (by omega) | exact sh_term (by omega) | exact sh_sheet (by omega) | exact sh_items (by omega) | exact sh_sums (by omega)) rfl ?_
    refine wp_iload_n (pc := 59) dX12_type_59 (by first | rfl | assumption | (repeat first | assumption | rfl | refine aG_n ?_ rfl rfl)) ?_
    refine wp_iadd (pc := 60) dX12_type_60 ?_
    refine wp_bipush (pc := 61) (v := 90) dX12_type_61 (by decide) ?_
    refine wp_icmp_le (pc := 63) (tgt := 69) dX12_type_63 rfl (fun _ => ?_) (fun q => absurd (by rw [h86, nI_add]; exact nI_le (b := 90) (by omega) (by omega)) q)
    refine wp_iload_n (pc := 69) dX12_type_69 (by first | rfl | assumption | (repeat first | assumption | rfl | refine aG_n ?_ rfl rfl)) ?_
    refine wp_iconst (pc := 70) (v := 1) dX12_type_70 (by decide) ?_
    refine wp_isub (pc := 71) dX12_type_71 ?_
    refine wp_istore (pc := 72) dX12_type_72 (by decide) ?_
    skip
    have := l_ty2 (X := X) hn c (k1 c) n 0 (by omega)
    rw [apG_0 h86] at this
    exact this _ (by first | rfl | assumption | (repeat first | assumption | rfl | refine aG_n ?_ rfl rfl)) (by first | rfl | assumption | (repeat first | assumption | rfl | refine aG_n ?_ rfl rfl)) (by first | rfl | assumption | (repeat first | assumption | rfl | refine aG_n ?_ rfl rfl))
  · refine wp_aload_n (pc := 55) dX12_type_55 (by first | rfl | assumption | (repeat first | assumption | rfl | refine aG_n ?_ rfl rfl)) ?_
    refine wp_getI (pc := 56) dX12_type_56 fl_12_161 (by first | rfl | assumption | exact sh_house (by omega) | exact sh_wish (by omega) | exact sh_wor (by omega) | exact sh_bar (by omega) | exact sh_term (by omega) | exact sh_sheet (by omega) | exact sh_items (by omega) | exact sh_sums (by omega)) rfl ?_
    refine wp_iload_n (pc := 59) dX12_type_59 (by first | rfl | assumption | (repeat first | assumption | rfl | refine aG_n ?_ rfl rfl)) ?_
    refine wp_iadd (pc := 60) dX12_type_60 ?_
    refine wp_bipush (pc := 61) (v := 90) dX12_type_61 (by decide) ?_
    refine wp_icmp_le (pc := 63) (tgt := 69) dX12_type_63 rfl (fun q => absurd q (by rw [h86, nI_add]; exact nI_ge (a := 90) (by omega) (by omega))) (fun _ => ?_)
    refine wp_bipush (pc := 66) (v := -3) dX12_type_66 (by decide) ?_
    refine wp_ireturn (pc := 68) dX12_type_68 rfl (by first | rfl | decide | assumption) ?_
    exact k0 (by omega)
theorem c_ty_bad {v : Int32} (hb : ¬ tyB w v) (k : Q (some (.int (-1))) μ) : WP X mX12_type 0 (lv_args 0 [.ref 86, .long w, .int v]) [] μ Q := by
  by_cases c : inR v 1 8
  · obtain ⟨m, h1, h2, rfl⟩ := in_18.mp c
    have hb' : ¬ ∀ j, j < m → okB w j := fun z => hb ⟨m, h1, h2, rfl, z⟩
    refine wp_iload_n (pc := 0) dX12_type_0 (by first | rfl | assumption | (repeat first | assumption | rfl | refine aG_n ?_ rfl rfl)) ?_
    refine wp_i2l (pc := 1) dX12_type_1 ?_
    refine wp_lconst (pc := 2) (v := 1) dX12_type_2 (by decide) ?_
    refine wp_ldc2 (pc := 3) dX12_type_3 cl_12_153 ?_
    refine wp_cS (pc := 6) dX12_type_6 lk_12_133 rfl rfl rfl (c_X12_in (fun _ => aK_i ?_) (fun q => absurd (by rw [w_int]; exact c) q))
    refine wp_if_ne (pc := 9) (tgt := 14) dX12_type_9 rfl (fun _ => ?_) (fun q => absurd q (by decide))
    refine wp_iload_n (pc := 14) dX12_type_14 (by first | rfl | assumption | (repeat first | assumption | rfl | refine aG_n ?_ rfl rfl)) ?_
    refine wp_iconst (pc := 15) (v := 1) dX12_type_15 (by decide) ?_
    refine wp_isub (pc := 16) dX12_type_16 ?_
    refine wp_istore (pc := 17) dX12_type_17 (by decide) ?_
    exact l_ty1 h2 (fun _ => k) (fun q => absurd q hb') m (Nat.le_refl _) (fun j hj hj2 => absurd hj (by omega)) _ (by first | rfl | assumption | (repeat first | assumption | rfl | refine aG_n ?_ rfl rfl)) (by first | rfl | assumption | (repeat first | assumption | rfl | refine aG_n ?_ rfl rfl)) (by first | rfl | assumption | (repeat first | assumption | rfl | refine aG_n ?_ rfl rfl)) (by first | rfl | assumption | (repeat first | assumption | rfl | refine aG_n ?_ rfl rfl))
  · refine wp_iload_n (pc := 0) dX12_type_0 (by first | rfl | assumption | (repeat first | assumption | rfl | refine aG_n ?_ rfl rfl)) ?_
    refine wp_i2l (pc := 1) dX12_type_1 ?_
    refine wp_lconst (pc := 2) (v := 1) dX12_type_2 (by decide) ?_
    refine wp_ldc2 (pc := 3) dX12_type_3 cl_12_153 ?_
    refine wp_cS (pc := 6) dX12_type_6 lk_12_133 rfl rfl rfl (c_X12_in (fun q => absurd q (by rw [w_int]; exact c)) (fun _ => aK_i ?_))
    refine wp_if_ne (pc := 9) (tgt := 14) dX12_type_9 rfl (fun q => absurd q (by decide)) (fun _ => ?_)
    refine wp_iconst (pc := 12) (v := -1) dX12_type_12 (by decide) ?_
    refine wp_ireturn (pc := 13) dX12_type_13 rfl (by first | rfl | decide | assumption) ?_
    exact k
end TYPE
theorem J_type (w : Int64) (v : Int32) : Jnt mX11_type mX12_type [.long w, .int v] := by
  intro X μ Q hI k
  obtain ⟨s, hs, t1, t2, t3⟩ := hI.2.2.2.2.1
  by_cases c : tyB w v
  · obtain ⟨n, h1, h2, rfl, hb⟩ := c
    by_cases c2 : s + n ≤ 90
    · refine wp_aload_n (pc := 0) dX11_type_0 (by first | rfl | assumption | (repeat first | assumption | rfl | refine aG_n ?_ rfl rfl)) ?_
      refine wp_getR (pc := 1) dX11_type_1 fl_11_18 (by first | rfl | assumption | exact sh_house (by omega) | exact sh_wish (by omega) | exact sh_wor (by omega) | exact sh_bar (by omega) | exact sh_term (by omega) | exact sh_sheet (by omega) | exact sh_items (by omega) | exact sh_sums (by omega)) rfl ?_
      refine wp_lload_n (pc := 4) dX11_type_4 (by first | rfl | assumption | (repeat first | assumption | rfl | refine aG_n ?_ rfl rfl)) ?_
      refine wp_iload_n (pc := 5) dX11_type_5 (by first | rfl | assumption | (repeat first | assumption | rfl | refine aG_n ?_ rfl rfl)) ?_
      refine wp_cV (pc := 6) dX11_type_6 lk_11_119 rfl (by decide) rfl (by first | rfl | assumption | exact sh_house (by omega) | exact sh_wish (by omega) | exact sh_wor (by omega) | exact sh_bar (by omega) | exact sh_term (by omega) | exact sh_sheet (by omega) | exact sh_items (by omega) | exact sh_sums (by omega)) rfl rfl (c_ap_ok h1 h2 hs t1 hb (fun q => absurd c2 (by omega)) (fun _ => aK_i ?_))
      refine wp_ireturn (pc := 9) dX11_type_9 rfl (by first | rfl | decide | assumption) ?_
      refine k _ _ (fun Q' k' => ?_)
      refine c_ty_ok (s := s) h1 h2 hs (by dsimp only; rw [apG_ne (by omega)]; exact t2) hb (fun q => absurd c2 (by omega)) (fun _ => k' _ ?_)
      dsimp only
      refine ⟨own_c (by simp (disch := omega) only [up2_ne, fil_ne, apG_ne, apG_p]) (fun i9 hi9 => (by simp (disch := omega) only [up2_ne, up2_p, fil_ne, fil_p, apG_ne, apG_p])) (hI.1), coin_c (by simp (disch := omega) only [up2_ne, fil_ne, apG_ne, apG_p]) (fun i9 hi9 => (by simp (disch := omega) only [up2_ne, up2_p, fil_ne, fil_p, apG_ne, apG_p])) (hI.2.1), lev_c ⟨(by simp (disch := omega) only [up2_ne, fil_ne, apG_ne, apG_p]), (by simp (disch := omega) only [up2_ne, fil_ne, apG_ne, apG_p]), (by simp (disch := omega) only [up2_ne, fil_ne, apG_ne, apG_p])⟩ (fun i9 hi9 => ⟨(by simp (disch := omega) only [up2_ne, up2_p, fil_ne, fil_p, apG_ne, apG_p]), (by simp (disch := omega) only [up2_ne, up2_p, fil_ne, fil_p, apG_ne, apG_p]), (by simp (disch := omega) only [up2_ne, up2_p, fil_ne, fil_p, apG_ne, apG_p])⟩) (hI.2.2.1), wish_c ⟨(by simp (disch := omega) only [up2_ne, fil_ne, apG_ne, apG_p]), (by simp (disch := omega) only [up2_ne, fil_ne, apG_ne, apG_p]), (by simp (disch := omega) only [up2_ne, fil_ne, apG_ne, apG_p]), (by simp (disch := omega) only [up2_ne, fil_ne, apG_ne, apG_p])⟩ (fun i9 hi9 => ⟨(by simp (disch := omega) only [up2_ne, fil_ne, apG_ne, apG_p]), (by simp (disch := omega) only [up2_ne, fil_ne, apG_ne, apG_p]), (by simp (disch := omega) only [up2_ne, fil_ne, apG_ne, apG_p])⟩) (hI.2.2.2.1), ?_, talk_c ⟨(by simp (disch := omega) only [up2_ne, fil_ne, apG_ne, apG_p]), (by simp (disch := omega) only [up2_ne, fil_ne, apG_ne, apG_p]), (by simp (disch := omega) only [up2_ne, fil_ne, apG_ne, apG_p]), (by simp (disch := omega) only [up2_ne, fil_ne, apG_ne, apG_p]), (by simp (disch := omega) only [up2_ne, fil_ne, apG_ne, apG_p])⟩ ⟨(by simp (disch := omega) only [up2_ne, fil_ne, apG_ne, apG_p]), (by simp (disch := omega) only [up2_ne, fil_ne, apG_ne, apG_p]), (by simp (disch := omega) only [up2_ne, fil_ne, apG_ne, apG_p])⟩ (fun j9 hj9 hk9 => (by simp (disch := omega) only [up2_ne, up2_p, fil_ne, fil_p, apG_ne, apG_p])) (fun o9 => ⟨(by simp (disch := omega) only [up2_ne, fil_ne, apG_ne, apG_p]), (by simp (disch := omega) only [up2_ne, fil_ne, apG_ne, apG_p])⟩) rfl (hI.2.2.2.2.2.1), led_c (by simp (disch := omega) only [up2_ne, up2_p, fil_ne, fil_p, apG_ne, apG_p]) (by simp (disch := omega) only [up2_ne, up2_p, fil_ne, fil_p, apG_ne, apG_p]) (fun i9 hi9 => (by simp (disch := omega) only [up2_ne, fil_ne, apG_ne, apG_p])) (fun c9 hc9 hd9 => (by simp (disch := omega) only [up2_ne, fil_ne, apG_ne, apG_p])) ⟨(by simp (disch := omega) only [up2_ne, fil_ne, apG_ne, apG_p]), (by simp (disch := omega) only [up2_ne, fil_ne, apG_ne, apG_p])⟩ (hI.2.2.2.2.2.2.1), row_c (by simp (disch := omega) only [up2_ne, fil_ne, apG_ne, apG_p]) (by simp (disch := omega) only [up2_ne, fil_ne, apG_ne, apG_p]) (hI.2.2.2.2.2.2.2.1), sheet_c ⟨(by simp (disch := omega) only [up2_ne, fil_ne, apG_ne, apG_p]), (by simp (disch := omega) only [up2_ne, fil_ne, apG_ne, apG_p]), (by simp (disch := omega) only [up2_ne, fil_ne, apG_ne, apG_p])⟩ (fun s9 hs9 => ⟨(by simp (disch := omega) only [up2_ne, fil_ne, apG_ne, apG_p]), (by simp (disch := omega) only [up2_ne, fil_ne, apG_ne, apG_p])⟩) (hI.2.2.2.2.2.2.2.2.1), grp_c (by simp (disch := omega) only [up2_ne, up2_p, fil_ne, fil_p, apG_ne, apG_p]) (fun g9 hg9 => (by simp (disch := omega) only [up2_ne, fil_ne, apG_ne, apG_p])) (fun i9 hi9 => ⟨(by simp (disch := omega) only [up2_ne, fil_ne, apG_ne, apG_p]), (by simp (disch := omega) only [up2_ne, fil_ne, apG_ne, apG_p])⟩) (hI.2.2.2.2.2.2.2.2.2)⟩
      refine ⟨s + n, c2, ?_, ?_, fun j hj => ?_⟩
      · dsimp only; rw [apG_ne (x := 2) (by omega)]; exact apG_c (a := 3) (c := 2) (by decide)
      · dsimp only; exact apG_c (a := 96) (c := 86) (by decide)
      · dsimp only; rw [apG_ne (M := apG μ.1 3 2 1 w n s n) (x := 3) (by omega)]
        obtain ⟨q1, q2⟩ := t3 j hj
        by_cases z : s ≤ j ∧ j < s + n
        · rw [apG_in z, apG_in z]
          refine ⟨rfl, fun _ => ?_⟩
          exact (inR_bt w _).mpr (hb _ (by omega))
        · rw [apG_p ⟨by omega, by omega⟩, apG_p ⟨by omega, by omega⟩, apG_ne (by omega)]
          exact ⟨q1, fun y => q2 (by omega)⟩
    · refine wp_aload_n (pc := 0) dX11_type_0 (by first | rfl | assumption | (repeat first | assumption | rfl | refine aG_n ?_ rfl rfl)) ?_
      refine wp_getR (pc := 1) dX11_type_1 fl_11_18 (by first | rfl | assumption | exact sh_house (by omega) | exact sh_wish (by omega) | exact sh_wor (by omega) | exact sh_bar (by omega) | exact sh_term (by omega) | exact sh_sheet (by omega) | exact sh_items (by omega) | exact sh_sums (by omega)) rfl ?_
      refine wp_lload_n (pc := 4) dX11_type_4 (by first | rfl | assumption | (repeat first | assumption | rfl | refine aG_n ?_ rfl rfl)) ?_
      refine wp_iload_n (pc := 5) dX11_type_5 (by first | rfl | assumption | (repeat first | assumption | rfl | refine aG_n ?_ rfl rfl)) ?_
      refine wp_cV (pc := 6) dX11_type_6 lk_11_119 rfl (by decide) rfl (by first | rfl | assumption | exact sh_house (by omega) | exact sh_wish (by omega) | exact sh_wor (by omega) | exact sh_bar (by omega) | exact sh_term (by omega) | exact sh_sheet (by omega) | exact sh_items (by omega) | exact sh_sums (by omega)) rfl rfl (c_ap_ok h1 h2 hs t1 hb (fun _ => aK_i ?_) (fun q => absurd q c2))
      refine wp_ireturn (pc := 9) dX11_type_9 rfl (by first | rfl | decide | assumption) ?_
      refine k _ _ (fun Q' k' => ?_)
      exact c_ty_ok (s := s) h1 h2 hs t2 hb (fun _ => k' _ hI) (fun q => absurd q c2)
  · refine wp_aload_n (pc := 0) dX11_type_0 (by first | rfl | assumption | (repeat first | assumption | rfl | refine aG_n ?_ rfl rfl)) ?_
    refine wp_getR (pc := 1) dX11_type_1 fl_11_18 (by first | rfl | assumption | exact sh_house (by omega) | exact sh_wish (by omega) | exact sh_wor (by omega) | exact sh_bar (by omega) | exact sh_term (by omega) | exact sh_sheet (by omega) | exact sh_items (by omega) | exact sh_sums (by omega)) rfl ?_
    refine wp_lload_n (pc := 4) dX11_type_4 (by first | rfl | assumption | (repeat first | assumption | rfl | refine aG_n ?_ rfl rfl)) ?_
    refine wp_iload_n (pc := 5) dX11_type_5 (by first | rfl | assumption | (repeat first | assumption | rfl | refine aG_n ?_ rfl rfl)) ?_
    refine wp_cV (pc := 6) dX11_type_6 lk_11_119 rfl (by decide) rfl (by first | rfl | assumption | exact sh_house (by omega) | exact sh_wish (by omega) | exact sh_wor (by omega) | exact sh_bar (by omega) | exact sh_term (by omega) | exact sh_sheet (by omega) | exact sh_items (by omega) | exact sh_sums (by omega)) rfl rfl (c_ap_bad c (aK_i ?_))
    refine wp_ireturn (pc := 9) dX11_type_9 rfl (by first | rfl | decide | assumption) ?_
    refine k _ _ (fun Q' k' => ?_)
    exact c_ty_bad c (k' _ hI)

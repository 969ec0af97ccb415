theorem qEq {Q : Option Value → Mm → Prop} {a b : Int32} {μ : Mm} (h : a = b) (k : Q (some (.int b)) μ) : Q (some (.int a)) μ := h ▸ k
theorem up2_p {M : Nat → Nat → Int32} {a j x y : Nat} {v : Int32} (h : ¬ (x = a ∧ y = j)) : up2 M a j v x y = M x y := if_neg h
theorem up2_at {M : Nat → Nat → Int32} {a j : Nat} {v : Int32} : up2 M a j v a j = v := by simp [up2]
def fil (M : MM) (a lo t : Nat) (v : Int32) : MM := fun x y => if x = a ∧ lo ≤ y ∧ y < lo + t then v else M x y
theorem fil_0 (M : MM) (a lo : Nat) (v : Int32) : fil M a lo 0 v = M := by
  funext x y; unfold fil; rw [if_neg (by omega)]
theorem fil_s (M : MM) (a lo t : Nat) (v : Int32) : up2 (fil M a lo t v) a (lo + t) v = fil M a lo (t + 1) v := by
  funext x y
  unfold up2 fil
  by_cases h1 : x = a ∧ y = lo + t
  · rw [if_pos h1, if_pos (by omega)]
  · rw [if_neg h1]
    by_cases h2 : x = a ∧ lo ≤ y ∧ y < lo + t
    · rw [if_pos h2, if_pos (by omega)]
    · rw [if_neg h2, if_neg (by omega)]
theorem fil_s0 (M : MM) (a t : Nat) (v : Int32) : up2 (fil M a 0 t v) a t v = fil M a 0 (t + 1) v := by
  have := fil_s M a 0 t v
  rw [Nat.zero_add] at this; exact this
theorem fil_ne {M : MM} {a lo t x : Nat} {v : Int32} (h : x ≠ a) : fil M a lo t v x = M x := by
  funext y; unfold fil; rw [if_neg (by omega)]
theorem fil_p {M : MM} {a lo t x y : Nat} {v : Int32} (h : ¬ (x = a ∧ lo ≤ y ∧ y < lo + t)) : fil M a lo t v x y = M x y := if_neg h
theorem fil_in {M : MM} {a lo t y : Nat} {v : Int32} (h : lo ≤ y ∧ y < lo + t) : fil M a lo t v a y = v := if_pos ⟨rfl, h⟩
theorem mEq {Q : Option Value → Mm → Prop} {M M' : MM} {R : Nat → Nat → Nat} {r : Option Value} (h : M = M') (k : Q r (M', R)) : Q r (M, R) := h ▸ k
theorem z_0 : (0 : Int32).toInt = 0 := by decide
theorem z_16 : (16 : Int32).toInt = 16 := by decide
theorem nI_i1 (n : Nat) : nI n + Int32.ofInt 1 = nI (n + 1) := nI_1 n
theorem n12 (i : Nat) : (12 : Int32) * nI i = nI (12 * i) := pk_mul 12 i
theorem tsF_lt (O : Nat → Int32) (i : Nat) : ∀ t, tsF O i t < 2 ^ t
  | 0 => by simp [tsF]
  | t + 1 => by
    have h := tsF_lt O i t
    have h2 : 2 ^ (t + 1) = 2 * 2 ^ t := by rw [Nat.pow_succ]; omega
    unfold tsF
    split <;> omega
theorem or_pow : ∀ t, t < 6 → ∀ a, a < 64 → a < 2 ^ t → nI a ||| ((1 : Int32) <<< (nI t &&& 31)) = nI (a + 2 ^ t) := by decide +kernel
theorem or_zero (a : Int32) : a ||| 0 = a := by
  apply Int32.toBitVec_inj.mp
  simp
section LOOPS
variable {X : aX} {μ : Mm} {Q : Option Value → Mm → Prop}
theorem l_thingsOf {i : Nat} (k : Q (some (.int (nI (tsF (μ.1 87) i 6)))) μ) : ∀ (f t : Nat), t + f = 6 → ∀ L : aL, aL_get L 0 = some (.ref 86) → aL_get L 1 = some (.int (nI i)) → aL_get L 2 = some (.int (nI (tsF (μ.1 87) i t))) → aL_get L 3 = some (.int (nI t)) → WP X mX12_thingsOf 4 L [] μ Q
  | 0, t, ht, L, g0, g1, g2, g3 => by
    obtain rfl : t = 6 := by omega
    refine wp_iload_n (pc := 4) dX12_thingsOf_4 (by first | rfl | assumption | (repeat first | assumption | rfl | refine aG_n ?_ rfl rfl)) ?_
    refine wp_bipush (pc := 5) (v := 6) dX12_thingsOf_5 (by decide) ?_
    refine wp_icmp_ge (pc := 7) (tgt := 36) dX12_thingsOf_7 rfl (fun _ => ?_) (fun q => absurd (nI_le (a := 6) (b := 6) (by omega) (by omega)) q)
    refine wp_iload_n (pc := 36) dX12_thingsOf_36 (by first | rfl | assumption | (repeat first | assumption | rfl | refine aG_n ?_ rfl rfl)) ?_
    refine wp_ireturn (pc := 37) dX12_thingsOf_37 rfl (by first | rfl | decide | assumption) ?_
    exact k
  | f + 1, t, ht, L, g0, g1, g2, g3 => by
    have hlt := tsF_lt (μ.1 87) i t
    have h64 : 2 ^ t ≤ 2 ^ 6 := Nat.pow_le_pow_right (by decide) (by omega)
    by_cases c : μ.1 87 t = nI i
    · have e : nI (tsF (μ.1 87) i t) ||| ((1 : Int32) <<< (nI t &&& 31)) = nI (tsF (μ.1 87) i (t + 1)) := by
        rw [or_pow t (by omega) _ (by omega) hlt]
        simp only [tsF, c, if_true]
      refine wp_iload_n (pc := 4) dX12_thingsOf_4 (by first | rfl | assumption | (repeat first | assumption | rfl | refine aG_n ?_ rfl rfl)) ?_
      refine wp_bipush (pc := 5) (v := 6) dX12_thingsOf_5 (by decide) ?_
      refine wp_icmp_ge (pc := 7) (tgt := 36) dX12_thingsOf_7 rfl (fun q => absurd q (nI_ge (a := t) (b := 6) (by omega) (by omega))) (fun _ => ?_)
      refine wp_iload_n (pc := 10) dX12_thingsOf_10 (by first | rfl | assumption | (repeat first | assumption | rfl | refine aG_n ?_ rfl rfl)) ?_
      refine wp_aload_n (pc := 11) dX12_thingsOf_11 (by first | rfl | assumption | (repeat first | assumption | rfl | refine aG_n ?_ rfl rfl)) ?_
      refine wp_getR (pc := 12) dX12_thingsOf_12 fl_12_7 (by first | rfl | assumption | exact sh_house (by omega) | exact sh_wish (by omega) | exact sh_wor (by omega) | exact sh_bar (by omega) | exact sh_term (by omega) | exact sh_sheet (by omega) | exact sh_items (by omega) | exact sh_sums (by omega)) rfl ?_
      refine wp_iload_n (pc := 15) dX12_thingsOf_15 (by first | rfl | assumption | (repeat first | assumption | rfl | refine aG_n ?_ rfl rfl)) ?_
      refine wp_iald (pc := 16) dX12_thingsOf_16 (by first | rfl | assumption | exact sh_house (by omega) | exact sh_wish (by omega) | exact sh_wor (by omega) | exact sh_bar (by omega) | exact sh_term (by omega) | exact sh_sheet (by omega) | exact sh_items (by omega) | exact sh_sums (by omega)) (vp_in_nI (by omega) (by decide)) ?_
      refine wp_iload_n (pc := 17) dX12_thingsOf_17 (by first | rfl | assumption | (repeat first | assumption | rfl | refine aG_n ?_ rfl rfl)) ?_
      refine wp_icmp_ne (pc := 18) (tgt := 27) dX12_thingsOf_18 rfl (fun q => absurd (by rw [nI_clamp (by omega)]; exact c) q) (fun _ => ?_)
      refine wp_iconst (pc := 21) (v := 1) dX12_thingsOf_21 (by decide) ?_
      refine wp_iload_n (pc := 22) dX12_thingsOf_22 (by first | rfl | assumption | (repeat first | assumption | rfl | refine aG_n ?_ rfl rfl)) ?_
      refine wp_ishl (pc := 23) dX12_thingsOf_23 ?_
      refine wp_goto (pc := 24) (tgt := 28) dX12_thingsOf_24 rfl ?_
      refine wp_ior (pc := 28) dX12_thingsOf_28 ?_
      refine wp_istore_n (pc := 29) dX12_thingsOf_29 (by decide) ?_
      refine wp_iinc (pc := 30) dX12_thingsOf_30 (by decide) (by first | rfl | assumption | (repeat first | assumption | rfl | refine aG_n ?_ rfl rfl)) rfl ?_
      refine wp_goto (pc := 33) (tgt := 4) dX12_thingsOf_33 rfl ?_
      exact l_thingsOf k f (t + 1) (by omega) _ (by first | rfl | assumption | (repeat first | assumption | rfl | refine aG_n ?_ rfl rfl)) (by first | rfl | assumption | (repeat first | assumption | rfl | refine aG_n ?_ rfl rfl)) (by rw [← e]; first | rfl | assumption | (repeat first | assumption | rfl | refine aG_n ?_ rfl rfl)) (by rw [← nI_i1]; first | rfl | assumption | (repeat first | assumption | rfl | refine aG_n ?_ rfl rfl))
    · have e : nI (tsF (μ.1 87) i t) ||| 0 = nI (tsF (μ.1 87) i (t + 1)) := by
        rw [or_zero]
        simp only [tsF, c, if_false]; rfl
      refine wp_iload_n (pc := 4) dX12_thingsOf_4 (by first | rfl | assumption | (repeat first | assumption | rfl | refine aG_n ?_ rfl rfl)) ?_
      refine wp_bipush (pc := 5) (v := 6) dX12_thingsOf_5 (by decide) ?_
      refine wp_icmp_ge (pc := 7) (tgt := 36) dX12_thingsOf_7 rfl (fun q => absurd q (nI_ge (a := t) (b := 6) (by omega) (by omega))) (fun _ => ?_)
      refine wp_iload_n (pc := 10) dX12_thingsOf_10 (by first | rfl | assumption | (repeat first | assumption | rfl | refine aG_n ?_ rfl rfl)) ?_
      refine wp_aload_n (pc := 11) dX12_thingsOf_11 (by first | rfl | assumption | (repeat first | assumption | rfl | refine aG_n ?_ rfl rfl)) ?_
      refine wp_getR (pc := 12) dX12_thingsOf_12 fl_12_7 (by first | rfl | assumption | exact sh_house (by omega) | exact sh_wish (by omega) | exact sh_wor (by omega) | exact sh_bar (by omega) | exact sh_term (by omega) | exact sh_sheet (by omega) | exact sh_items (by omega) | exact sh_sums (by omega)) rfl ?_
      refine wp_iload_n (pc := 15) dX12_thingsOf_15 (by first | rfl | assumption | (repeat first | assumption | rfl | refine aG_n ?_ rfl rfl)) ?_
      refine wp_iald (pc := 16) dX12_thingsOf_16 (by first | rfl | assumption | exact sh_house (by omega) | exact sh_wish (by omega) | exact sh_wor (by omega) | exact sh_bar (by omega) | exact sh_term (by omega) | exact sh_sheet (by omega) | exact sh_items (by omega) | exact sh_sums (by omega)) (vp_in_nI (by omega) (by decide)) ?_
      refine wp_iload_n (pc := 17) dX12_thingsOf_17 (by first | rfl | assumption | (repeat first | assumption | rfl | refine aG_n ?_ rfl rfl)) ?_
      refine wp_icmp_ne (pc := 18) (tgt := 27) dX12_thingsOf_18 rfl (fun _ => ?_) (fun q => absurd q (by rw [nI_clamp (by omega)]; exact c))
      refine wp_iconst (pc := 27) (v := 0) dX12_thingsOf_27 (by decide) ?_
      refine wp_ior (pc := 28) dX12_thingsOf_28 ?_
      refine wp_istore_n (pc := 29) dX12_thingsOf_29 (by decide) ?_
      refine wp_iinc (pc := 30) dX12_thingsOf_30 (by decide) (by first | rfl | assumption | (repeat first | assumption | rfl | refine aG_n ?_ rfl rfl)) rfl ?_
      refine wp_goto (pc := 33) (tgt := 4) dX12_thingsOf_33 rfl ?_
      exact l_thingsOf k f (t + 1) (by omega) _ (by first | rfl | assumption | (repeat first | assumption | rfl | refine aG_n ?_ rfl rfl)) (by first | rfl | assumption | (repeat first | assumption | rfl | refine aG_n ?_ rfl rfl)) (by rw [← e]; first | rfl | assumption | (repeat first | assumption | rfl | refine aG_n ?_ rfl rfl)) (by rw [← nI_i1]; first | rfl | assumption | (repeat first | assumption | rfl | refine aG_n ?_ rfl rfl))
theorem c_X12_thingsOf {i : Nat} (k : Q (some (.int (nI (tsF (μ.1 87) i 6)))) μ) : WP X mX12_thingsOf 0 (lv_args 0 [.ref 86, .int (nI i)]) [] μ Q := by
  refine wp_iconst (pc := 0) (v := 0) dX12_thingsOf_0 (by decide) ?_
  refine wp_istore_n (pc := 1) dX12_thingsOf_1 (by decide) ?_
  refine wp_iconst (pc := 2) (v := 0) dX12_thingsOf_2 (by decide) ?_
  refine wp_istore_n (pc := 3) dX12_thingsOf_3 (by decide) ?_
  exact l_thingsOf k 6 0 (by omega) _ (by first | rfl | assumption | (repeat first | assumption | rfl | refine aG_n ?_ rfl rfl)) (by first | rfl | assumption | (repeat first | assumption | rfl | refine aG_n ?_ rfl rfl)) (by first | rfl | assumption | (repeat first | assumption | rfl | refine aG_n ?_ rfl rfl)) (by first | rfl | assumption | (repeat first | assumption | rfl | refine aG_n ?_ rfl rfl))
theorem l_worthOf {i n : Nat} {s : Int32} (hi : i < 4) (hn : n ≤ 12) (h92 : μ.1 92 i = nI n) (k : Q (some (.int (wF μ.1 i s n))) μ) : ∀ (f t : Nat), t + f = n → ∀ L : aL, aL_get L 0 = some (.ref 86) → aL_get L 1 = some (.int (nI i)) → aL_get L 2 = some (.int s) → aL_get L 3 = some (.int (wF μ.1 i s t)) → aL_get L 4 = some (.int (nI (12 * i + t))) → WP X mX12_worthOf 8 L [] μ Q
  | 0, t, ht, L, g0, g1, g2, g3, g4 => by
    obtain rfl : t = n := by omega
    have e1 : (12 : Int32) * nI i + μ.1 92 (nI i).toNatClampNeg = nI (12 * i + t) := by rw [n12, nI_clamp (by omega), h92, nI_add]
    refine wp_iload (pc := 8) dX12_worthOf_8 (by first | rfl | assumption | (repeat first | assumption | rfl | refine aG_n ?_ rfl rfl)) ?_
    refine wp_bipush (pc := 10) (v := 12) dX12_worthOf_10 (by decide) ?_
    refine wp_iload_n (pc := 12) dX12_worthOf_12 (by first | rfl | assumption | (repeat first | assumption | rfl | refine aG_n ?_ rfl rfl)) ?_
    refine wp_imul (pc := 13) dX12_worthOf_13 ?_
    refine wp_aload_n (pc := 14) dX12_worthOf_14 (by first | rfl | assumption | (repeat first | assumption | rfl | refine aG_n ?_ rfl rfl)) ?_
    refine wp_getR (pc := 15) dX12_worthOf_15 fl_12_25 (by first | rfl | assumption | exact sh_house (by omega) | exact sh_wish (by omega) | exact sh_wor (by omega) | exact sh_bar (by omega) | exact sh_term (by omega) | exact sh_sheet (by omega) | exact sh_items (by omega) | exact sh_sums (by omega)) rfl ?_
    refine wp_iload_n (pc := 18) dX12_worthOf_18 (by first | rfl | assumption | (repeat first | assumption | rfl | refine aG_n ?_ rfl rfl)) ?_
    refine wp_iald (pc := 19) dX12_worthOf_19 (by first | rfl | assumption | exact sh_house (by omega) | exact sh_wish (by omega) | exact sh_wor (by omega) | exact sh_bar (by omega) | exact sh_term (by omega) | exact sh_sheet (by omega) | exact sh_items (by omega) | exact sh_sums (by omega)) (vp_in_nI (by omega) (by decide)) ?_
    refine wp_iadd (pc := 20) dX12_worthOf_20 ?_
    refine wp_icmp_ge (pc := 21) (tgt := 58) dX12_worthOf_21 rfl (fun _ => ?_) (fun q => absurd (by rw [e1]; exact nI_le (by omega) (by omega)) q)
    refine wp_iload_n (pc := 58) dX12_worthOf_58 (by first | rfl | assumption | (repeat first | assumption | rfl | refine aG_n ?_ rfl rfl)) ?_
    refine wp_ireturn (pc := 59) dX12_worthOf_59 rfl (by first | rfl | decide | assumption) ?_
    exact k
  | f + 1, t, ht, L, g0, g1, g2, g3, g4 => by
    have e1 : (12 : Int32) * nI i + μ.1 92 (nI i).toNatClampNeg = nI (12 * i + n) := by rw [n12, nI_clamp (by omega), h92, nI_add]
    have e2 : (nI (12 * i + t)).toNatClampNeg = 12 * i + t := nI_clamp (by omega)
    by_cases c : μ.1 93 (12 * i + t) &&& (s ^^^ (-1)) = 0
    · have e : wF μ.1 i s t + μ.1 94 (nI (12 * i + t)).toNatClampNeg = wF μ.1 i s (t + 1) := by rw [e2]; simp only [wF, c, if_true]
      refine wp_iload (pc := 8) dX12_worthOf_8 (by first | rfl | assumption | (repeat first | assumption | rfl | refine aG_n ?_ rfl rfl)) ?_
      refine wp_bipush (pc := 10) (v := 12) dX12_worthOf_10 (by decide) ?_
      refine wp_iload_n (pc := 12) dX12_worthOf_12 (by first | rfl | assumption | (repeat first | assumption | rfl | refine aG_n ?_ rfl rfl)) ?_
      refine wp_imul (pc := 13) dX12_worthOf_13 ?_
      refine wp_aload_n (pc := 14) dX12_worthOf_14 (by first | rfl | assumption | (repeat first | assumption | rfl | refine aG_n ?_ rfl rfl)) ?_
      refine wp_getR (pc := 15) dX12_worthOf_15 fl_12_25 (by first | rfl | assumption | exact sh_house (by omega) | exact sh_wish (by omega) | exact sh_wor (by omega) | exact sh_bar (by omega) | exact sh_term (by omega) | exact sh_sheet (by omega) | exact sh_items (by omega) | exact sh_sums (by omega)) rfl ?_
      refine wp_iload_n (pc := 18) dX12_worthOf_18 (by first | rfl | assumption | (repeat first | assumption | rfl | refine aG_n ?_ rfl rfl)) ?_
      refine wp_iald (pc := 19) dX12_worthOf_19 (by first | rfl | assumption | exact sh_house (by omega) | exact sh_wish (by omega) | exact sh_wor (by omega) | exact sh_bar (by omega) | exact sh_term (by omega) | exact sh_sheet (by omega) | exact sh_items (by omega) | exact sh_sums (by omega)) (vp_in_nI (by omega) (by decide)) ?_
      refine wp_iadd (pc := 20) dX12_worthOf_20 ?_
      refine wp_icmp_ge (pc := 21) (tgt := 58) dX12_worthOf_21 rfl (fun q => absurd q (by rw [e1]; exact nI_ge (by omega) (by omega))) (fun _ => ?_)
      refine wp_iload_n (pc := 24) dX12_worthOf_24 (by first | rfl | assumption | (repeat first | assumption | rfl | refine aG_n ?_ rfl rfl)) ?_
      refine wp_aload_n (pc := 25) dX12_worthOf_25 (by first | rfl | assumption | (repeat first | assumption | rfl | refine aG_n ?_ rfl rfl)) ?_
      refine wp_getR (pc := 26) dX12_worthOf_26 fl_12_28 (by first | rfl | assumption | exact sh_house (by omega) | exact sh_wish (by omega) | exact sh_wor (by omega) | exact sh_bar (by omega) | exact sh_term (by omega) | exact sh_sheet (by omega) | exact sh_items (by omega) | exact sh_sums (by omega)) rfl ?_
      refine wp_iload (pc := 29) dX12_worthOf_29 (by first | rfl | assumption | (repeat first | assumption | rfl | refine aG_n ?_ rfl rfl)) ?_
      refine wp_iald (pc := 31) dX12_worthOf_31 (by first | rfl | assumption | exact sh_house (by omega) | exact sh_wish (by omega) | exact sh_wor (by omega) | exact sh_bar (by omega) | exact sh_term (by omega) | exact sh_sheet (by omega) | exact sh_items (by omega) | exact sh_sums (by omega)) (vp_in_nI (by omega) (by decide)) ?_
      refine wp_iload_n (pc := 32) dX12_worthOf_32 (by first | rfl | assumption | (repeat first | assumption | rfl | refine aG_n ?_ rfl rfl)) ?_
      refine wp_iconst (pc := 33) (v := -1) dX12_worthOf_33 (by decide) ?_
      refine wp_ixor (pc := 34) dX12_worthOf_34 ?_
      refine wp_iand (pc := 35) dX12_worthOf_35 ?_
      refine wp_if_ne (pc := 36) (tgt := 49) dX12_worthOf_36 rfl (fun q => absurd (by rw [e2]; exact c) q) (fun _ => ?_)
      refine wp_aload_n (pc := 39) dX12_worthOf_39 (by first | rfl | assumption | (repeat first | assumption | rfl | refine aG_n ?_ rfl rfl)) ?_
      refine wp_getR (pc := 40) dX12_worthOf_40 fl_12_31 (by first | rfl | assumption | exact sh_house (by omega) | exact sh_wish (by omega) | exact sh_wor (by omega) | exact sh_bar (by omega) | exact sh_term (by omega) | exact sh_sheet (by omega) | exact sh_items (by omega) | exact sh_sums (by omega)) rfl ?_
      refine wp_iload (pc := 43) dX12_worthOf_43 (by first | rfl | assumption | (repeat first | assumption | rfl | refine aG_n ?_ rfl rfl)) ?_
      refine wp_iald (pc := 45) dX12_worthOf_45 (by first | rfl | assumption | exact sh_house (by omega) | exact sh_wish (by omega) | exact sh_wor (by omega) | exact sh_bar (by omega) | exact sh_term (by omega) | exact sh_sheet (by omega) | exact sh_items (by omega) | exact sh_sums (by omega)) (vp_in_nI (by omega) (by decide)) ?_
      refine wp_goto (pc := 46) (tgt := 50) dX12_worthOf_46 rfl ?_
      refine wp_iadd (pc := 50) dX12_worthOf_50 ?_
      refine wp_istore_n (pc := 51) dX12_worthOf_51 (by decide) ?_
      refine wp_iinc (pc := 52) dX12_worthOf_52 (by decide) (by first | rfl | assumption | (repeat first | assumption | rfl | refine aG_n ?_ rfl rfl)) rfl ?_
      refine wp_goto (pc := 55) (tgt := 8) dX12_worthOf_55 rfl ?_
      exact l_worthOf hi hn h92 k f (t + 1) (by omega) _ (by first | rfl | assumption | (repeat first | assumption | rfl | refine aG_n ?_ rfl rfl)) (by first | rfl | assumption | (repeat first | assumption | rfl | refine aG_n ?_ rfl rfl)) (by first | rfl | assumption | (repeat first | assumption | rfl | refine aG_n ?_ rfl rfl)) (by rw [← e]; first | rfl | assumption | (repeat first | assumption | rfl | refine aG_n ?_ rfl rfl)) (by rw [show 12 * i + (t + 1) = 12 * i + t + 1 by omega, ← nI_i1]; first | rfl | assumption | (repeat first | assumption | rfl | refine aG_n ?_ rfl rfl))
    · have e : wF μ.1 i s t + 0 = wF μ.1 i s (t + 1) := by simp only [wF, c, if_false]
      refine wp_iload (pc := 8) dX12_worthOf_8 (by first | rfl | assumption | (repeat first | assumption | rfl | refine aG_n ?_ rfl rfl)) ?_
      refine wp_bipush (pc := 10) (v := 12) dX12_worthOf_10 (by decide) ?_
      refine wp_iload_n (pc := 12) dX12_worthOf_12 (by first | rfl | assumption | (repeat first | assumption | rfl | refine aG_n ?_ rfl rfl)) ?_
      refine wp_imul (pc := 13) dX12_worthOf_13 ?_
      refine wp_aload_n (pc := 14) dX12_worthOf_14 (by first | rfl | assumption | (repeat first | assumption | rfl | refine aG_n ?_ rfl rfl)) ?_
      refine wp_getR (pc := 15) dX12_worthOf_15 fl_12_25 (by first | rfl | assumption | exact sh_house (by omega) | exact sh_wish (by omega) | exact sh_wor (by omega) | exact sh_bar (by omega) | exact sh_term (by omega) | exact sh_sheet (by omega) | exact sh_items (by omega) | exact sh_sums (by omega)) rfl ?_
      refine wp_iload_n (pc := 18) dX12_worthOf_18 (by first | rfl | assumption | (repeat first | assumption | rfl | refine aG_n ?_ rfl rfl)) ?_
      refine wp_iald (pc := 19) dX12_worthOf_19 (by first | rfl | assumption | exact sh_house (by omega) | exact sh_wish (by omega) | exact sh_wor (by omega) | exact sh_bar (by omega) | exact sh_term (by omega) | exact sh_sheet (by omega) | exact sh_items (by omega) | exact sh_sums (by omega)) (vp_in_nI (by omega) (by decide)) ?_
      refine wp_iadd (pc := 20) dX12_worthOf_20 ?_
      refine wp_icmp_ge (pc := 21) (tgt := 58) dX12_worthOf_21 rfl (fun q => absurd q (by rw [e1]; exact nI_ge (by omega) (by omega))) (fun _ => ?_)
      refine wp_iload_n (pc := 24) dX12_worthOf_24 (by first | rfl | assumption | (repeat first | assumption | rfl | refine aG_n ?_ rfl rfl)) ?_
      refine wp_aload_n (pc := 25) dX12_worthOf_25 (by first | rfl | assumption | (repeat first | assumption | rfl | refine aG_n ?_ rfl rfl)) ?_
      refine wp_getR (pc := 26) dX12_worthOf_26 fl_12_28 (by first | rfl | assumption | exact sh_house (by omega) | exact sh_wish (by omega) | exact sh_wor (by omega) | exact sh_bar (by omega) | exact sh_term (by omega) | exact sh_sheet (by omega) | exact sh_items (by omega) | exact sh_sums (by omega)) rfl ?_
      refine wp_iload (pc := 29) dX12_worthOf_29 (by first | rfl | assumption | (repeat first | assumption | rfl | refine aG_n ?_ rfl rfl)) ?_
      refine wp_iald (pc := 31) dX12_worthOf_31 (by first | rfl | assumption | exact sh_house (by omega) | exact sh_wish (by omega) | exact sh_wor (by omega) | exact sh_bar (by omega) | exact sh_term (by omega) | exact sh_sheet (by omega) | exact sh_items (by omega) | exact sh_sums (by omega)) (vp_in_nI (by omega) (by decide)) ?_
      refine wp_iload_n (pc := 32) dX12_worthOf_32 (by first | rfl | assumption | (repeat first | assumption | rfl | refine aG_n ?_ rfl rfl)) ?_
      refine wp_iconst (pc := 33) (v := -1) dX12_worthOf_33 (by decide) ?_
      refine wp_ixor (pc := 34) dX12_worthOf_34 ?_
      refine wp_iand (pc := 35) dX12_worthOf_35 ?_
      refine wp_if_ne (pc := 36) (tgt := 49) dX12_worthOf_36 rfl (fun _ => ?_) (fun q => absurd q (by rw [e2]; exact c))
      refine wp_iconst (pc := 49) (v := 0) dX12_worthOf_49 (by decide) ?_
      refine wp_iadd (pc := 50) dX12_worthOf_50 ?_
      refine wp_istore_n (pc := 51) dX12_worthOf_51 (by decide) ?_
      refine wp_iinc (pc := 52) dX12_worthOf_52 (by decide) (by first | rfl | assumption | (repeat first | assumption | rfl | refine aG_n ?_ rfl rfl)) rfl ?_
      refine wp_goto (pc := 55) (tgt := 8) dX12_worthOf_55 rfl ?_
      exact l_worthOf hi hn h92 k f (t + 1) (by omega) _ (by first | rfl | assumption | (repeat first | assumption | rfl | refine aG_n ?_ rfl rfl)) (by first | rfl | assumption | (repeat first | assumption | rfl | refine aG_n ?_ rfl rfl)) (by first | rfl | assumption | (repeat first | assumption | rfl | refine aG_n ?_ rfl rfl)) (by rw [← e]; first | rfl | assumption | (repeat first | assumption | rfl | refine aG_n ?_ rfl rfl)) (by rw [show 12 * i + (t + 1) = 12 * i + t + 1 by omega, ← nI_i1]; first | rfl | assumption | (repeat first | assumption | rfl | refine aG_n ?_ rfl rfl))
theorem c_X12_worthOf {i n : Nat} {s : Int32} (hi : i < 4) (hn : n ≤ 12) (h92 : μ.1 92 i = nI n) (k : Q (some (.int (wF μ.1 i s n))) μ) : WP X mX12_worthOf 0 (lv_args 0 [.ref 86, .int (nI i), .int s]) [] μ Q := by
  refine wp_iconst (pc := 0) (v := 0) dX12_worthOf_0 (by decide) ?_
  refine wp_istore_n (pc := 1) dX12_worthOf_1 (by decide) ?_
  refine wp_bipush (pc := 2) (v := 12) dX12_worthOf_2 (by decide) ?_
  refine wp_iload_n (pc := 4) dX12_worthOf_4 (by first | rfl | assumption | (repeat first | assumption | rfl | refine aG_n ?_ rfl rfl)) ?_
  refine wp_imul (pc := 5) dX12_worthOf_5 ?_
  refine wp_istore (pc := 6) dX12_worthOf_6 (by decide) ?_
  exact l_worthOf hi hn h92 k n 0 (by omega) _ (by first | rfl | assumption | (repeat first | assumption | rfl | refine aG_n ?_ rfl rfl)) (by first | rfl | assumption | (repeat first | assumption | rfl | refine aG_n ?_ rfl rfl)) (by first | rfl | assumption | (repeat first | assumption | rfl | refine aG_n ?_ rfl rfl)) (by first | rfl | assumption | (repeat first | assumption | rfl | refine aG_n ?_ rfl rfl)) (by rw [Nat.add_zero, ← n12]; first | rfl | assumption | (repeat first | assumption | rfl | refine aG_n ?_ rfl rfl))
def b2i (b : Bool) : Int32 := if b = true then 1 else 0
theorem l_isBarred {i n : Nat} {s : Int32} (hi : i < 4) (hn : n ≤ 12) (h92 : μ.1 92 i = nI n) (k : Q (some (.int (b2i (bF μ.1 i s n)))) μ) : ∀ (f t : Nat), t + f = n → ∀ L : aL, aL_get L 0 = some (.ref 86) → aL_get L 1 = some (.int (nI i)) → aL_get L 2 = some (.int s) → aL_get L 3 = some (.int (b2i (bF μ.1 i s t))) → aL_get L 4 = some (.int (nI (12 * i + t))) → WP X mX12_isBarred 8 L [] μ Q
  | 0, t, ht, L, g0, g1, g2, g3, g4 => by
    obtain rfl : t = n := by omega
    have e1 : (12 : Int32) * nI i + μ.1 92 (nI i).toNatClampNeg = nI (12 * i + t) := by rw [n12, nI_clamp (by omega), h92, nI_add]
    refine wp_iload (pc := 8) dX12_isBarred_8 (by first | rfl | assumption | (repeat first | assumption | rfl | refine aG_n ?_ rfl rfl)) ?_
    refine wp_bipush (pc := 10) (v := 12) dX12_isBarred_10 (by decide) ?_
    refine wp_iload_n (pc := 12) dX12_isBarred_12 (by first | rfl | assumption | (repeat first | assumption | rfl | refine aG_n ?_ rfl rfl)) ?_
    refine wp_imul (pc := 13) dX12_isBarred_13 ?_
    refine wp_aload_n (pc := 14) dX12_isBarred_14 (by first | rfl | assumption | (repeat first | assumption | rfl | refine aG_n ?_ rfl rfl)) ?_
    refine wp_getR (pc := 15) dX12_isBarred_15 fl_12_25 (by first | rfl | assumption | exact sh_house (by omega) | exact sh_wish (by omega) | exact sh_wor (by omega) | exact sh_bar (by omega) | exact sh_term (by omega) | exact sh_sheet (by omega) | exact sh_items (by omega) | exact sh_sums (by omega)) rfl ?_
    refine wp_iload_n (pc := 18) dX12_isBarred_18 (by first | rfl | assumption | (repeat first | assumption | rfl | refine aG_n ?_ rfl rfl)) ?_
    refine wp_iald (pc := 19) dX12_isBarred_19 (by first | rfl | assumption | exact sh_house (by omega) | exact sh_wish (by omega) | exact sh_wor (by omega) | exact sh_bar (by omega) | exact sh_term (by omega) | exact sh_sheet (by omega) | exact sh_items (by omega) | exact sh_sums (by omega)) (vp_in_nI (by omega) (by decide)) ?_
    refine wp_iadd (pc := 20) dX12_isBarred_20 ?_
    refine wp_icmp_ge (pc := 21) (tgt := 64) dX12_isBarred_21 rfl (fun _ => ?_) (fun q => absurd (by rw [e1]; exact nI_le (by omega) (by omega)) q)
    refine wp_iload_n (pc := 64) dX12_isBarred_64 (by first | rfl | assumption | (repeat first | assumption | rfl | refine aG_n ?_ rfl rfl)) ?_
    refine wp_ireturn (pc := 65) dX12_isBarred_65 rfl (by unfold b2i; split <;> rfl) ?_
    exact k
  | f + 1, t, ht, L, g0, g1, g2, g3, g4 => by
    have e1 : (12 : Int32) * nI i + μ.1 92 (nI i).toNatClampNeg = nI (12 * i + n) := by rw [n12, nI_clamp (by omega), h92, nI_add]
    have e2 : (nI (12 * i + t)).toNatClampNeg = 12 * i + t := nI_clamp (by omega)
    by_cases c0 : bF μ.1 i s t = true
    · have e : (1 : Int32) = b2i (bF μ.1 i s (t + 1)) := by simp [bF, c0, b2i]
      refine wp_iload (pc := 8) dX12_isBarred_8 (by first | rfl | assumption | (repeat first | assumption | rfl | refine aG_n ?_ rfl rfl)) ?_
      refine wp_bipush (pc := 10) (v := 12) dX12_isBarred_10 (by decide) ?_
      refine wp_iload_n (pc := 12) dX12_isBarred_12 (by first | rfl | assumption | (repeat first | assumption | rfl | refine aG_n ?_ rfl rfl)) ?_
      refine wp_imul (pc := 13) dX12_isBarred_13 ?_
      refine wp_aload_n (pc := 14) dX12_isBarred_14 (by first | rfl | assumption | (repeat first | assumption | rfl | refine aG_n ?_ rfl rfl)) ?_
      refine wp_getR (pc := 15) dX12_isBarred_15 fl_12_25 (by first | rfl | assumption | exact sh_house (by omega) | exact sh_wish (by omega) | exact sh_wor (by omega) | exact sh_bar (by omega) | exact sh_term (by omega) | exact sh_sheet (by omega) | exact sh_items (by omega) | exact sh_sums (by omega)) rfl ?_
      refine wp_iload_n (pc := 18) dX12_isBarred_18 (by first | rfl | assumption | (repeat first | assumption | rfl | refine aG_n ?_ rfl rfl)) ?_
      refine wp_iald (pc := 19) dX12_isBarred_19 (by first | rfl | assumption | exact sh_house (by omega) | exact sh_wish (by omega) | exact sh_wor (by omega) | exact sh_bar (by omega) | exact sh_term (by omega) | exact sh_sheet (by omega) | exact sh_items (by omega) | exact sh_sums (by omega)) (vp_in_nI (by omega) (by decide)) ?_
      refine wp_iadd (pc := 20) dX12_isBarred_20 ?_
      refine wp_icmp_ge (pc := 21) (tgt := 64) dX12_isBarred_21 rfl (fun q => absurd q (by rw [e1]; exact nI_ge (by omega) (by omega))) (fun _ => ?_)
      refine wp_iload_n (pc := 24) dX12_isBarred_24 (by first | rfl | assumption | (repeat first | assumption | rfl | refine aG_n ?_ rfl rfl)) ?_
      refine wp_if_ne (pc := 25) (tgt := 52) dX12_isBarred_25 rfl (fun _ => ?_) (fun q => absurd q (by rw [c0]; decide))
      refine wp_iconst (pc := 52) (v := 1) dX12_isBarred_52 (by decide) ?_
      refine wp_goto (pc := 53) (tgt := 57) dX12_isBarred_53 rfl ?_
      refine wp_istore_n (pc := 57) dX12_isBarred_57 (by decide) ?_
      refine wp_iinc (pc := 58) dX12_isBarred_58 (by decide) (by first | rfl | assumption | (repeat first | assumption | rfl | refine aG_n ?_ rfl rfl)) rfl ?_
      refine wp_goto (pc := 61) (tgt := 8) dX12_isBarred_61 rfl ?_
      exact l_isBarred hi hn h92 k f (t + 1) (by omega) _ (by first | rfl | assumption | (repeat first | assumption | rfl | refine aG_n ?_ rfl rfl)) (by first | rfl | assumption | (repeat first | assumption | rfl | refine aG_n ?_ rfl rfl)) (by first | rfl | assumption | (repeat first | assumption | rfl | refine aG_n ?_ rfl rfl)) (by rw [← e]; first | rfl | assumption | (repeat first | assumption | rfl | refine aG_n ?_ rfl rfl)) (by rw [show 12 * i + (t + 1) = 12 * i + t + 1 by omega, ← nI_i1]; first | rfl | assumption | (repeat first | assumption | rfl | refine aG_n ?_ rfl rfl))
    · have c0' : bF μ.1 i s t = false := by simpa using c0
      by_cases c1 : μ.1 95 (12 * i + t) = 0
      · have e : (0 : Int32) = b2i (bF μ.1 i s (t + 1)) := by simp [bF, c0', c1, b2i]
        refine wp_iload (pc := 8) dX12_isBarred_8 (by first | rfl | assumption | (repeat first | assumption | rfl | refine aG_n ?_ rfl rfl)) ?_
        refine wp_bipush (pc := 10) (v := 12) dX12_isBarred_10 (by decide) ?_
        refine wp_iload_n (pc := 12) dX12_isBarred_12 (by first | rfl | assumption | (repeat first | assumption | rfl | refine aG_n ?_ rfl rfl)) ?_
        refine wp_imul (pc := 13) dX12_isBarred_13 ?_
        refine wp_aload_n (pc := 14) dX12_isBarred_14 (by first | rfl | assumption | (repeat first | assumption | rfl | refine aG_n ?_ rfl rfl)) ?_
        refine wp_getR (pc := 15) dX12_isBarred_15 fl_12_25 (by first | rfl | assumption | exact sh_house (by omega) | exact sh_wish (by omega) | exact sh_wor (by omega) | exact sh_bar (by omega) | exact sh_term (by omega) | exact sh_sheet (by omega) | exact sh_items (by omega) | exact sh_sums (by omega)) rfl ?_
        refine wp_iload_n (pc := 18) dX12_isBarred_18 (by first | rfl | assumption | (repeat first | assumption | rfl | refine aG_n ?_ rfl rfl)) ?_
        refine wp_iald (pc := 19) dX12_isBarred_19 (by first | rfl | assumption | exact sh_house (by omega) | exact sh_wish (by omega) | exact sh_wor (by omega) | exact sh_bar (by omega) | exact sh_term (by omega) | exact sh_sheet (by omega) | exact sh_items (by omega) | exact sh_sums (by omega)) (vp_in_nI (by omega) (by decide)) ?_
        refine wp_iadd (pc := 20) dX12_isBarred_20 ?_
        refine wp_icmp_ge (pc := 21) (tgt := 64) dX12_isBarred_21 rfl (fun q => absurd q (by rw [e1]; exact nI_ge (by omega) (by omega))) (fun _ => ?_)
        refine wp_iload_n (pc := 24) dX12_isBarred_24 (by first | rfl | assumption | (repeat first | assumption | rfl | refine aG_n ?_ rfl rfl)) ?_
        refine wp_if_ne (pc := 25) (tgt := 52) dX12_isBarred_25 rfl (fun q => absurd (by rw [c0']; decide) q) (fun _ => ?_)
        refine wp_aload_n (pc := 28) dX12_isBarred_28 (by first | rfl | assumption | (repeat first | assumption | rfl | refine aG_n ?_ rfl rfl)) ?_
        refine wp_getR (pc := 29) dX12_isBarred_29 fl_12_34 (by first | rfl | assumption | exact sh_house (by omega) | exact sh_wish (by omega) | exact sh_wor (by omega) | exact sh_bar (by omega) | exact sh_term (by omega) | exact sh_sheet (by omega) | exact sh_items (by omega) | exact sh_sums (by omega)) rfl ?_
        refine wp_iload (pc := 32) dX12_isBarred_32 (by first | rfl | assumption | (repeat first | assumption | rfl | refine aG_n ?_ rfl rfl)) ?_
        refine wp_zald (pc := 34) dX12_isBarred_34 (by first | rfl | assumption | exact sh_house (by omega) | exact sh_wish (by omega) | exact sh_wor (by omega) | exact sh_bar (by omega) | exact sh_term (by omega) | exact sh_sheet (by omega) | exact sh_items (by omega) | exact sh_sums (by omega)) (vp_in_nI (by omega) (by decide)) ?_
        refine wp_if_eq (pc := 35) (tgt := 56) dX12_isBarred_35 rfl (fun _ => ?_) (fun q => absurd (by rw [e2]; exact c1) q)
        refine wp_iconst (pc := 56) (v := 0) dX12_isBarred_56 (by decide) ?_
        refine wp_istore_n (pc := 57) dX12_isBarred_57 (by decide) ?_
        refine wp_iinc (pc := 58) dX12_isBarred_58 (by decide) (by first | rfl | assumption | (repeat first | assumption | rfl | refine aG_n ?_ rfl rfl)) rfl ?_
        refine wp_goto (pc := 61) (tgt := 8) dX12_isBarred_61 rfl ?_
        exact l_isBarred hi hn h92 k f (t + 1) (by omega) _ (by first | rfl | assumption | (repeat first | assumption | rfl | refine aG_n ?_ rfl rfl)) (by first | rfl | assumption | (repeat first | assumption | rfl | refine aG_n ?_ rfl rfl)) (by first | rfl | assumption | (repeat first | assumption | rfl | refine aG_n ?_ rfl rfl)) (by rw [← e]; first | rfl | assumption | (repeat first | assumption | rfl | refine aG_n ?_ rfl rfl)) (by rw [show 12 * i + (t + 1) = 12 * i + t + 1 by omega, ← nI_i1]; first | rfl | assumption | (repeat first | assumption | rfl | refine aG_n ?_ rfl rfl))
      · by_cases c : μ.1 93 (12 * i + t) &&& (s ^^^ (-1)) = 0
        · have e : (1 : Int32) = b2i (bF μ.1 i s (t + 1)) := by unfold bF b2i; rw [c0', decide_eq_true (p := μ.1 95 (12 * i + t) ≠ 0) c1, decide_eq_true c]; rfl
          refine wp_iload (pc := 8) dX12_isBarred_8 (by first | rfl | assumption | (repeat first | assumption | rfl | refine aG_n ?_ rfl rfl)) ?_
          refine wp_bipush (pc := 10) (v := 12) dX12_isBarred_10 (by decide) ?_
          refine wp_iload_n (pc := 12) dX12_isBarred_12 (by first | rfl | assumption | (repeat first | assumption | rfl | refine aG_n ?_ rfl rfl)) ?_
          refine wp_imul (pc := 13) dX12_isBarred_13 ?_
          refine wp_aload_n (pc := 14) dX12_isBarred_14 (by first | rfl | assumption | (repeat first | assumption | rfl | refine aG_n ?_ rfl rfl)) ?_
          refine wp_getR (pc := 15) dX12_isBarred_15 fl_12_25 (by first | rfl | assumption | exact sh_house (by omega) | exact sh_wish (by omega) | exact sh_wor (by omega) | exact sh_bar (by omega) | exact sh_term (by omega) | exact sh_sheet (by omega) | exact sh_items (by omega) | exact sh_sums (by omega)) rfl ?_
          refine wp_iload_n (pc := 18) dX12_isBarred_18 (by first | rfl | assumption | (repeat first | assumption | rfl | refine aG_n ?_ rfl rfl)) ?_
          refine wp_iald (pc := 19) dX12_isBarred_19 (by first | rfl | assumption | exact sh_house (by omega) | exact sh_wish (by omega) | exact sh_wor (by omega) | exact sh_bar (by omega) | exact sh_term (by omega) | exact sh_sheet (by omega) | exact sh_items (by omega) | exact sh_sums (by omega)) (vp_in_nI (by omega) (by decide)) ?_
          refine wp_iadd (pc := 20) dX12_isBarred_20 ?_
          refine wp_icmp_ge (pc := 21) (tgt := 64) dX12_isBarred_21 rfl (fun q => absurd q (by rw [e1]; exact nI_ge (by omega) (by omega))) (fun _ => ?_)
          refine wp_iload_n (pc := 24) dX12_isBarred_24 (by first | rfl | assumption | (repeat first | assumption | rfl | refine aG_n ?_ rfl rfl)) ?_
          refine wp_if_ne (pc := 25) (tgt := 52) dX12_isBarred_25 rfl (fun q => absurd (by rw [c0']; decide) q) (fun _ => ?_)
          refine wp_aload_n (pc := 28) dX12_isBarred_28 (by first | rfl | assumption | (repeat first | assumption | rfl | refine aG_n ?_ rfl rfl)) ?_
          refine wp_getR (pc := 29) dX12_isBarred_29 fl_12_34 (by first | rfl | assumption | exact sh_house (by omega) | exact sh_wish (by omega) | exact sh_wor (by omega) | exact sh_bar (by omega) | exact sh_term (by omega) | exact sh_sheet (by omega) | exact sh_items (by omega) | exact sh_sums (by omega)) rfl ?_
          refine wp_iload (pc := 32) dX12_isBarred_32 (by first | rfl | assumption | (repeat first | assumption | rfl | refine aG_n ?_ rfl rfl)) ?_
          refine wp_zald (pc := 34) dX12_isBarred_34 (by first | rfl | assumption | exact sh_house (by omega) | exact sh_wish (by omega) | exact sh_wor (by omega) | exact sh_bar (by omega) | exact sh_term (by omega) | exact sh_sheet (by omega) | exact sh_items (by omega) | exact sh_sums (by omega)) (vp_in_nI (by omega) (by decide)) ?_
          refine wp_if_eq (pc := 35) (tgt := 56) dX12_isBarred_35 rfl (fun q => absurd q (by rw [e2]; exact c1)) (fun _ => ?_)
          refine wp_aload_n (pc := 38) dX12_isBarred_38 (by first | rfl | assumption | (repeat first | assumption | rfl | refine aG_n ?_ rfl rfl)) ?_
          refine wp_getR (pc := 39) dX12_isBarred_39 fl_12_28 (by first | rfl | assumption | exact sh_house (by omega) | exact sh_wish (by omega) | exact sh_wor (by omega) | exact sh_bar (by omega) | exact sh_term (by omega) | exact sh_sheet (by omega) | exact sh_items (by omega) | exact sh_sums (by omega)) rfl ?_
          refine wp_iload (pc := 42) dX12_isBarred_42 (by first | rfl | assumption | (repeat first | assumption | rfl | refine aG_n ?_ rfl rfl)) ?_
          refine wp_iald (pc := 44) dX12_isBarred_44 (by first | rfl | assumption | exact sh_house (by omega) | exact sh_wish (by omega) | exact sh_wor (by omega) | exact sh_bar (by omega) | exact sh_term (by omega) | exact sh_sheet (by omega) | exact sh_items (by omega) | exact sh_sums (by omega)) (vp_in_nI (by omega) (by decide)) ?_
          refine wp_iload_n (pc := 45) dX12_isBarred_45 (by first | rfl | assumption | (repeat first | assumption | rfl | refine aG_n ?_ rfl rfl)) ?_
          refine wp_iconst (pc := 46) (v := -1) dX12_isBarred_46 (by decide) ?_
          refine wp_ixor (pc := 47) dX12_isBarred_47 ?_
          refine wp_iand (pc := 48) dX12_isBarred_48 ?_
          refine wp_if_ne (pc := 49) (tgt := 56) dX12_isBarred_49 rfl (fun q => absurd (by rw [e2]; exact c) q) (fun _ => ?_)
          refine wp_iconst (pc := 52) (v := 1) dX12_isBarred_52 (by decide) ?_
          refine wp_goto (pc := 53) (tgt := 57) dX12_isBarred_53 rfl ?_
          refine wp_istore_n (pc := 57) dX12_isBarred_57 (by decide) ?_
          refine wp_iinc (pc := 58) dX12_isBarred_58 (by decide) (by first | rfl | assumption | (repeat first | assumption | rfl | refine aG_n ?_ rfl rfl)) rfl ?_
          refine wp_goto (pc := 61) (tgt := 8) dX12_isBarred_61 rfl ?_
          exact l_isBarred hi hn h92 k f (t + 1) (by omega) _ (by first | rfl | assumption | (repeat first | assumption | rfl | refine aG_n ?_ rfl rfl)) (by first | rfl | assumption | (repeat first | assumption | rfl | refine aG_n ?_ rfl rfl)) (by first | rfl | assumption | (repeat first | assumption | rfl | refine aG_n ?_ rfl rfl)) (by rw [← e]; first | rfl | assumption | (repeat first | assumption | rfl | refine aG_n ?_ rfl rfl)) (by rw [show 12 * i + (t + 1) = 12 * i + t + 1 by omega, ← nI_i1]; first | rfl | assumption | (repeat first | assumption | rfl | refine aG_n ?_ rfl rfl))
        · have e : (0 : Int32) = b2i (bF μ.1 i s (t + 1)) := by unfold bF b2i; rw [c0', decide_eq_false c, Bool.and_false]; rfl
          refine wp_iload (pc := 8) dX12_isBarred_8 (by first | rfl | assumption | (repeat first | assumption | rfl | refine aG_n ?_ rfl rfl)) ?_
          refine wp_bipush (pc := 10) (v := 12) dX12_isBarred_10 (by decide) ?_
          refine wp_iload_n (pc := 12) dX12_isBarred_12 (by first | rfl | assumption | (repeat first | assumption | rfl | refine aG_n ?_ rfl rfl)) ?_
          refine wp_imul (pc := 13) dX12_isBarred_13 ?_
          refine wp_aload_n (pc := 14) dX12_isBarred_14 (by first | rfl | assumption | (repeat first | assumption | rfl | refine aG_n ?_ rfl rfl)) ?_
          refine wp_getR (pc := 15) dX12_isBarred_15 fl_12_25 (by first | rfl | assumption | exact sh_house (by omega) | exact sh_wish (by omega) | exact sh_wor (by omega) | exact sh_bar (by omega) | exact sh_term (by omega) | exact sh_sheet (by omega) | exact sh_items (by omega) | exact sh_sums (by omega)) rfl ?_
          refine wp_iload_n (pc := 18) dX12_isBarred_18 (by first | rfl | assumption | (repeat first | assumption | rfl | refine aG_n ?_ rfl rfl)) ?_
          refine wp_iald (pc := 19) dX12_isBarred_19 (by first | rfl | assumption | exact sh_house (by omega) | exact sh_wish (by omega) | exact sh_wor (by omega) | exact sh_bar (by omega) | exact sh_term (by omega) | exact sh_sheet (by omega) | exact sh_items (by omega) | exact sh_sums (by omega)) (vp_in_nI (by omega) (by decide)) ?_
          refine wp_iadd (pc := 20) dX12_isBarred_20 ?_
          refine wp_icmp_ge (pc := 21) (tgt := 64) dX12_isBarred_21 rfl (fun q => absurd q (by rw [e1]; exact nI_ge (by omega) (by omega))) (fun _ => ?_)
          refine wp_iload_n (pc := 24) dX12_isBarred_24 (by first | rfl | assumption | (repeat first | assumption | rfl | refine aG_n ?_ rfl rfl)) ?_
          refine wp_if_ne (pc := 25) (tgt := 52) dX12_isBarred_25 rfl (fun q => absurd (by rw [c0']; decide) q) (fun _ => ?_)
          refine wp_aload_n (pc := 28) dX12_isBarred_28 (by first | rfl | assumption | (repeat first | assumption | rfl | refine aG_n ?_ rfl rfl)) ?_
          refine wp_getR (pc := 29) dX12_isBarred_29 fl_12_34 (by first | rfl | assumption | exact sh_house (by omega) | exact sh_wish (by omega) | exact sh_wor (by omega) | exact sh_bar (by omega) | exact sh_term (by omega) | exact sh_sheet (by omega) | exact sh_items (by omega) | exact sh_sums (by omega)) rfl ?_
          refine wp_iload (pc := 32) dX12_isBarred_32 (by first | rfl | assumption | (repeat first | assumption | rfl | refine aG_n ?_ rfl rfl)) ?_
          refine wp_zald (pc := 34) dX12_isBarred_34 (by first | rfl | assumption | exact sh_house (by omega) | exact sh_wish (by omega) | exact sh_wor (by omega) | exact sh_bar (by omega) | exact sh_term (by omega) | exact sh_sheet (by omega) | exact sh_items (by omega) | exact sh_sums (by omega)) (vp_in_nI (by omega) (by decide)) ?_
          refine wp_if_eq (pc := 35) (tgt := 56) dX12_isBarred_35 rfl (fun q => absurd q (by rw [e2]; exact c1)) (fun _ => ?_)
          refine wp_aload_n (pc := 38) dX12_isBarred_38 (by first | rfl | assumption | (repeat first | assumption | rfl | refine aG_n ?_ rfl rfl)) ?_
          refine wp_getR (pc := 39) dX12_isBarred_39 fl_12_28 (by first | rfl | assumption | exact sh_house (by omega) | exact sh_wish (by omega) | exact sh_wor (by omega) | exact sh_bar (by omega) | exact sh_term (by omega) | exact sh_sheet (by omega) | exact sh_items (by omega) | exact sh_sums (by omega)) rfl ?_
          refine wp_iload (pc := 42) dX12_isBarred_42 (by first | rfl | assumption | (repeat first | assumption | rfl | refine aG_n ?_ rfl rfl)) ?_
          refine wp_iald (pc := 44) dX12_isBarred_44 (by first | rfl | assumption | exact sh_house (by omega) | exact sh_wish (by omega) | exact sh_wor (by omega) | exact sh_bar (by omega) | exact sh_term (by omega) | exact sh_sheet (by omega) | exact sh_items (by omega) | exact sh_sums (by omega)) (vp_in_nI (by omega) (by decide)) ?_
          refine wp_iload_n (pc := 45) dX12_isBarred_45 (by first | rfl | assumption | (repeat first | assumption | rfl | refine aG_n ?_ rfl rfl)) ?_
          refine wp_iconst (pc := 46) (v := -1) dX12_isBarred_46 (by decide) ?_
          refine wp_ixor (pc := 47) dX12_isBarred_47 ?_
          refine wp_iand (pc := 48) dX12_isBarred_48 ?_
          refine wp_if_ne (pc := 49) (tgt := 56) dX12_isBarred_49 rfl (fun _ => ?_) (fun q => absurd q (by rw [e2]; exact c))
          refine wp_iconst (pc := 56) (v := 0) dX12_isBarred_56 (by decide) ?_
          refine wp_istore_n (pc := 57) dX12_isBarred_57 (by decide) ?_
          refine wp_iinc (pc := 58) dX12_isBarred_58 (by decide) (by first | rfl | assumption | (repeat first | assumption | rfl | refine aG_n ?_ rfl rfl)) rfl ?_
          refine wp_goto (pc := 61) (tgt := 8) dX12_isBarred_61 rfl ?_
          exact l_isBarred hi hn h92 k f (t + 1) (by omega) _ (by first | rfl | assumption | (repeat first | assumption | rfl | refine aG_n ?_ rfl rfl)) (by first | rfl | assumption | (repeat first | assumption | rfl | refine aG_n ?_ rfl rfl)) (by first | rfl | assumption | (repeat first | assumption | rfl | refine aG_n ?_ rfl rfl)) (by rw [← e]; first | rfl | assumption | (repeat first | assumption | rfl | refine aG_n ?_ rfl rfl)) (by rw [show 12 * i + (t + 1) = 12 * i + t + 1 by omega, ← nI_i1]; first | rfl | assumption | (repeat first | assumption | rfl | refine aG_n ?_ rfl rfl))
theorem c_X12_isBarred {i n : Nat} {s : Int32} (hi : i < 4) (hn : n ≤ 12) (h92 : μ.1 92 i = nI n) (k : Q (some (.int (b2i (bF μ.1 i s n)))) μ) : WP X mX12_isBarred 0 (lv_args 0 [.ref 86, .int (nI i), .int s]) [] μ Q := by
  refine wp_iconst (pc := 0) (v := 0) dX12_isBarred_0 (by decide) ?_
  refine wp_istore_n (pc := 1) dX12_isBarred_1 (by decide) ?_
  refine wp_bipush (pc := 2) (v := 12) dX12_isBarred_2 (by decide) ?_
  refine wp_iload_n (pc := 4) dX12_isBarred_4 (by first | rfl | assumption | (repeat first | assumption | rfl | refine aG_n ?_ rfl rfl)) ?_
  refine wp_imul (pc := 5) dX12_isBarred_5 ?_
  refine wp_istore (pc := 6) dX12_isBarred_6 (by decide) ?_
  exact l_isBarred hi hn h92 k n 0 (by omega) _ (by first | rfl | assumption | (repeat first | assumption | rfl | refine aG_n ?_ rfl rfl)) (by first | rfl | assumption | (repeat first | assumption | rfl | refine aG_n ?_ rfl rfl)) (by first | rfl | assumption | (repeat first | assumption | rfl | refine aG_n ?_ rfl rfl)) (by first | rfl | assumption | (repeat first | assumption | rfl | refine aG_n ?_ rfl rfl)) (by rw [Nat.add_zero, ← n12]; first | rfl | assumption | (repeat first | assumption | rfl | refine aG_n ?_ rfl rfl))
end LOOPS

theorem shl_p : ∀ t, t < 6 → (1 : Int32) <<< (nI t &&& 31) = nI (2 ^ t) := by decide +kernel
theorem p_bit : ∀ s, s < 64 → ∀ t, t < 6 → (nI (2 ^ t) &&& (nI s ^^^ (-1)) = 0 ↔ s.testBit t = true) := by decide +kernel
theorem wF_sum {M : MM} {i s : Nat} {v : Nat → Int32} (hs : s < 64) : ∀ n, n ≤ 6 → (∀ q, q < n → M 93 (12 * i + q) = nI (2 ^ q) ∧ M 94 (12 * i + q) = v q) → wF M i (nI s) n = sumF v s n
  | 0, _, _ => rfl
  | n + 1, hn, h => by
    unfold wF sumF
    rw [wF_sum hs n (by omega) (fun q hq => h q (by omega)), (h n (by omega)).1, (h n (by omega)).2]
    by_cases c : s.testBit n = true
    · rw [if_pos c, if_pos ((p_bit s hs n (by omega)).mpr c)]
    · rw [if_neg c, if_neg (fun z => c ((p_bit s hs n (by omega)).mp z))]
theorem bF_no {M : MM} {i : Nat} {s : Int32} : ∀ n, (∀ q, q < n → M 95 (12 * i + q) = 0) → bF M i s n = false
  | 0, _ => rfl
  | n + 1, h => by
    unfold bF
    rw [bF_no n (fun q hq => h q (by omega)), h n (by omega)]
    simp
section WISHES
variable {X : aX} {μ : Mm} {Q : Option Value → Mm → Prop} {s fr : Nat}
theorem in_99 {x : Int32} : inR x (-(99 : Int32)).toInt (99 : Int32).toInt ↔ inR x (-99) 99 := by
  have h1 : (-(99 : Int32)).toInt = -99 := by decide
  have h2 : (99 : Int32).toInt = 99 := by decide
  rw [h1, h2]
theorem l_within (hs : s < 4) (hf : fr + 6 ≤ 12) (kt : (∀ j, j < 6 → inR (μ.1 (79 + 2 * s) (fr + j)) (-99) 99) → Q (some (.int 1)) μ) (kf : ¬ (∀ j, j < 6 → inR (μ.1 (79 + 2 * s) (fr + j)) (-99) 99) → Q (some (.int 0)) μ) : ∀ (f t : Nat), t + f = 6 → (∀ j, j < t → inR (μ.1 (79 + 2 * s) (fr + j)) (-99) 99) → ∀ L : aL, aL_get L 0 = some (.ref (78 + 2 * s)) → aL_get L 1 = some (.int (nI fr)) → aL_get L 2 = some (.int 6) → aL_get L 3 = some (.int 99) → aL_get L 4 = some (.int (nI (fr + t))) → WP X mX6_areWithin 17 L [] μ Q
  | 0, t, ht, hb, L, g0, g1, g2, g3, g4 => by
    obtain rfl : t = 6 := by omega
    refine wp_iload (pc := 17) dX6_areWithin_17 (by first | rfl | assumption | (repeat first | assumption | rfl | refine aG_n ?_ rfl rfl)) ?_
    refine wp_iload_n (pc := 19) dX6_areWithin_19 (by first | rfl | assumption | (repeat first | assumption | rfl | refine aG_n ?_ rfl rfl)) ?_
    refine wp_iload_n (pc := 20) dX6_areWithin_20 (by first | rfl | assumption | (repeat first | assumption | rfl | refine aG_n ?_ rfl rfl)) ?_
    refine wp_iadd (pc := 21) dX6_areWithin_21 ?_
    refine wp_icmp_ge (pc := 22) (tgt := 49) dX6_areWithin_22 rfl (fun _ => ?_) (fun q => absurd (by rw [show nI fr + 6 = nI (fr + 6) from nI_add fr 6]; exact nI_le (by omega) (by omega)) q)
    refine wp_iconst (pc := 49) (v := 1) dX6_areWithin_49 (by decide) ?_
    refine wp_ireturn (pc := 50) dX6_areWithin_50 rfl (by first | rfl | decide | assumption) ?_
    exact kt hb
  | f + 1, t, ht, hb, L, g0, g1, g2, g3, g4 => by
    have ct : (nI (fr + t)).toNatClampNeg = fr + t := nI_clamp (by omega)
    by_cases c : inR (μ.1 (79 + 2 * s) (fr + t)) (-99) 99
    · refine wp_iload (pc := 17) dX6_areWithin_17 (by first | rfl | assumption | (repeat first | assumption | rfl | refine aG_n ?_ rfl rfl)) ?_
      refine wp_iload_n (pc := 19) dX6_areWithin_19 (by first | rfl | assumption | (repeat first | assumption | rfl | refine aG_n ?_ rfl rfl)) ?_
      refine wp_iload_n (pc := 20) dX6_areWithin_20 (by first | rfl | assumption | (repeat first | assumption | rfl | refine aG_n ?_ rfl rfl)) ?_
      refine wp_iadd (pc := 21) dX6_areWithin_21 ?_
      refine wp_icmp_ge (pc := 22) (tgt := 49) dX6_areWithin_22 rfl (fun q => absurd q (by rw [show nI fr + 6 = nI (fr + 6) from nI_add fr 6]; exact nI_ge (by omega) (by omega))) (fun _ => ?_)
      refine wp_aload_n (pc := 25) dX6_areWithin_25 (by first | rfl | assumption | (repeat first | assumption | rfl | refine aG_n ?_ rfl rfl)) ?_
      refine wp_getR (pc := 26) dX6_areWithin_26 fl_6_11 (by first | rfl | assumption | exact sh_house (by omega) | exact sh_wish (by omega) | exact sh_wor (by omega) | exact sh_bar (by omega) | exact sh_term (by omega) | exact sh_sheet (by omega) | exact sh_items (by omega) | exact sh_sums (by omega)) rfl ?_
      refine wp_iload (pc := 29) dX6_areWithin_29 (by first | rfl | assumption | (repeat first | assumption | rfl | refine aG_n ?_ rfl rfl)) ?_
      refine wp_iald (pc := 31) dX6_areWithin_31 (by first | rfl | assumption | exact sh_house (by omega) | exact sh_wish (by omega) | exact sh_wor (by omega) | exact sh_bar (by omega) | exact sh_term (by omega) | exact sh_sheet (by omega) | exact sh_items (by omega) | exact sh_sums (by omega)) (vp_in_nI (by omega) (by decide)) ?_
      refine wp_iload_n (pc := 32) dX6_areWithin_32 (by first | rfl | assumption | (repeat first | assumption | rfl | refine aG_n ?_ rfl rfl)) ?_
      refine wp_ineg (pc := 33) dX6_areWithin_33 ?_
      refine wp_iload_n (pc := 34) dX6_areWithin_34 (by first | rfl | assumption | (repeat first | assumption | rfl | refine aG_n ?_ rfl rfl)) ?_
      refine wp_cS (pc := 35) dX6_areWithin_35 lk_6_26 rfl rfl rfl (c_X11_isWithin (fun _ => aK_i ?_) (fun q => absurd (by rw [ct]; exact in_99.mpr c) q))
      refine wp_if_ne (pc := 38) (tgt := 43) dX6_areWithin_38 rfl (fun _ => ?_) (fun q => absurd q (by decide))
      refine wp_iinc (pc := 43) dX6_areWithin_43 (by decide) (by first | rfl | assumption | (repeat first | assumption | rfl | refine aG_n ?_ rfl rfl)) rfl ?_
      refine wp_goto (pc := 46) (tgt := 17) dX6_areWithin_46 rfl ?_
      exact l_within hs hf kt kf f (t + 1) (by omega) (fun j hj => if e : j = t then e ▸ c else hb j (by omega)) _ (by first | rfl | assumption | (repeat first | assumption | rfl | refine aG_n ?_ rfl rfl)) (by first | rfl | assumption | (repeat first | assumption | rfl | refine aG_n ?_ rfl rfl)) (by first | rfl | assumption | (repeat first | assumption | rfl | refine aG_n ?_ rfl rfl)) (by first | rfl | assumption | (repeat first | assumption | rfl | refine aG_n ?_ rfl rfl)) (by rw [← Nat.add_assoc, ← nI_i1]; first | rfl | assumption | (repeat first | assumption | rfl | refine aG_n ?_ rfl rfl))
    · refine wp_iload (pc := 17) dX6_areWithin_17 (by first | rfl | assumption | (repeat first | assumption | rfl | refine aG_n ?_ rfl rfl)) ?_
      refine wp_iload_n (pc := 19) dX6_areWithin_19 (by first | rfl | assumption | (repeat first | assumption | rfl | refine aG_n ?_ rfl rfl)) ?_
      refine wp_iload_n (pc := 20) dX6_areWithin_20 (by first | rfl | assumption | (repeat first | assumption | rfl | refine aG_n ?_ rfl rfl)) ?_
      refine wp_iadd (pc := 21) dX6_areWithin_21 ?_
      refine wp_icmp_ge (pc := 22) (tgt := 49) dX6_areWithin_22 rfl (fun q => absurd q (by rw [show nI fr + 6 = nI (fr + 6) from nI_add fr 6]; exact nI_ge (by omega) (by omega))) (fun _ => ?_)
      refine wp_aload_n (pc := 25) dX6_areWithin_25 (by first | rfl | assumption | (repeat first | assumption | rfl | refine aG_n ?_ rfl rfl)) ?_
      refine wp_getR (pc := 26) dX6_areWithin_26 fl_6_11 (by first | rfl | assumption | exact sh_house (by omega) | exact sh_wish (by omega) | exact sh_wor (by omega) | exact sh_bar (by omega) | exact sh_term (by omega) | exact sh_sheet (by omega) | exact sh_items (by omega) | exact sh_sums (by omega)) rfl ?_
      refine wp_iload (pc := 29) dX6_areWithin_29 (by first | rfl | assumption | (repeat first | assumption | rfl | refine aG_n ?_ rfl rfl)) ?_
      refine wp_iald (pc := 31) dX6_areWithin_31 (by first | rfl | assumption | exact sh_house (by omega) | exact sh_wish (by omega) | exact sh_wor (by omega) | exact sh_bar (by omega) | exact sh_term (by omega) | exact sh_sheet (by omega) | exact sh_items (by omega) | exact sh_sums (by omega)) (vp_in_nI (by omega) (by decide)) ?_
      refine wp_iload_n (pc := 32) dX6_areWithin_32 (by first | rfl | assumption | (repeat first | assumption | rfl | refine aG_n ?_ rfl rfl)) ?_
      refine wp_ineg (pc := 33) dX6_areWithin_33 ?_
      refine wp_iload_n (pc := 34) dX6_areWithin_34 (by first | rfl | assumption | (repeat first | assumption | rfl | refine aG_n ?_ rfl rfl)) ?_
      refine wp_cS (pc := 35) dX6_areWithin_35 lk_6_26 rfl rfl rfl (c_X11_isWithin (fun q => absurd q (by rw [ct]; exact fun z => c (in_99.mp z))) (fun _ => aK_i ?_))
      refine wp_if_ne (pc := 38) (tgt := 43) dX6_areWithin_38 rfl (fun q => absurd q (by decide)) (fun _ => ?_)
      refine wp_iconst (pc := 41) (v := 0) dX6_areWithin_41 (by decide) ?_
      refine wp_ireturn (pc := 42) dX6_areWithin_42 rfl (by first | rfl | decide | assumption) ?_
      exact kf (fun z => c (z t (by omega)))
theorem c_X6_areWithin (hs : s < 4) (hf : fr + 6 ≤ 12) (kt : (∀ j, j < 6 → inR (μ.1 (79 + 2 * s) (fr + j)) (-99) 99) → Q (some (.int 1)) μ) (kf : ¬ (∀ j, j < 6 → inR (μ.1 (79 + 2 * s) (fr + j)) (-99) 99) → Q (some (.int 0)) μ) : WP X mX6_areWithin 0 (lv_args 0 [.ref (78 + 2 * s), .int (nI fr), .int 6, .int 99]) [] μ Q := by
  refine wp_iload_n (pc := 0) dX6_areWithin_0 (by first | rfl | assumption | (repeat first | assumption | rfl | refine aG_n ?_ rfl rfl)) ?_
  refine wp_if_lt (pc := 1) (tgt := 12) dX6_areWithin_1 rfl (fun q => absurd q (nI_pos (by omega))) (fun _ => ?_)
  refine wp_iload_n (pc := 4) dX6_areWithin_4 (by first | rfl | assumption | (repeat first | assumption | rfl | refine aG_n ?_ rfl rfl)) ?_
  refine wp_bipush (pc := 5) (v := 12) dX6_areWithin_5 (by decide) ?_
  refine wp_iload_n (pc := 7) dX6_areWithin_7 (by first | rfl | assumption | (repeat first | assumption | rfl | refine aG_n ?_ rfl rfl)) ?_
  refine wp_isub (pc := 8) dX6_areWithin_8 ?_
  refine wp_icmp_le (pc := 9) (tgt := 14) dX6_areWithin_9 rfl (fun _ => ?_) (fun q => absurd (by rw [show (12 : Int32) - 6 = nI 6 from by decide]; exact nI_le (by omega) (by omega)) q)
  refine wp_iload_n (pc := 14) dX6_areWithin_14 (by first | rfl | assumption | (repeat first | assumption | rfl | refine aG_n ?_ rfl rfl)) ?_
  refine wp_istore (pc := 15) dX6_areWithin_15 (by decide) ?_
  exact l_within hs hf kt kf 6 0 (by omega) (fun j hj => absurd hj (by omega)) _ (by first | rfl | assumption | (repeat first | assumption | rfl | refine aG_n ?_ rfl rfl)) (by first | rfl | assumption | (repeat first | assumption | rfl | refine aG_n ?_ rfl rfl)) (by first | rfl | assumption | (repeat first | assumption | rfl | refine aG_n ?_ rfl rfl)) (by first | rfl | assumption | (repeat first | assumption | rfl | refine aG_n ?_ rfl rfl)) (by first | rfl | assumption | (repeat first | assumption | rfl | refine aG_n ?_ rfl rfl))
theorem l_wsM1 {i : Nat} (hs : s < 4) (hf : fr + 6 ≤ 12) (kt : (∀ j, j < 6 → inR (μ.1 126 (12 * s + fr + j)) (-99) 99) → ∀ L : aL, aL_get L 0 = some (.ref 86) → aL_get L 1 = some (.int (nI i)) → aL_get L 6 = some (.int (nI (12 * s + fr))) → WP X mX12_wishes 98 L [] μ Q) (kf : ¬ (∀ j, j < 6 → inR (μ.1 126 (12 * s + fr + j)) (-99) 99) → Q (some (.int (-2))) μ) : ∀ (f t : Nat), t + f = 6 → (∀ j, j < t → inR (μ.1 126 (12 * s + fr + j)) (-99) 99) → ∀ L : aL, aL_get L 0 = some (.ref 86) → aL_get L 1 = some (.int (nI i)) → aL_get L 6 = some (.int (nI (12 * s + fr))) → aL_get L 7 = some (.int (nI t)) → WP X mX12_wishes 59 L [] μ Q
  | 0, t, ht, hb, L, g0, g1, g6, g7 => by
    obtain rfl : t = 6 := by omega
    refine wp_iload (pc := 59) dX12_wishes_59 (by first | rfl | assumption | (repeat first | assumption | rfl | refine aG_n ?_ rfl rfl)) ?_
    refine wp_bipush (pc := 61) (v := 6) dX12_wishes_61 (by decide) ?_
    refine wp_icmp_ge (pc := 63) (tgt := 98) dX12_wishes_63 rfl (fun _ => ?_) (fun q => absurd (nI_le (a := 6) (b := 6) (by omega) (by omega)) q)
    exact kt hb _ g0 g1 g6
  | f + 1, t, ht, hb, L, g0, g1, g6, g7 => by
    have ct : (nI (12 * s + fr) + nI t).toNatClampNeg = 12 * s + fr + t := by rw [nI_add, nI_clamp (by omega)]
    by_cases c : inR (μ.1 126 (12 * s + fr + t)) (-99) 99
    · refine wp_iload (pc := 59) dX12_wishes_59 (by first | rfl | assumption | (repeat first | assumption | rfl | refine aG_n ?_ rfl rfl)) ?_
      refine wp_bipush (pc := 61) (v := 6) dX12_wishes_61 (by decide) ?_
      refine wp_icmp_ge (pc := 63) (tgt := 98) dX12_wishes_63 rfl (fun q => absurd q (nI_ge (a := t) (b := 6) (by omega) (by omega))) (fun _ => ?_)
      refine wp_aload_n (pc := 66) dX12_wishes_66 (by first | rfl | assumption | (repeat first | assumption | rfl | refine aG_n ?_ rfl rfl)) ?_
      refine wp_getR (pc := 67) dX12_wishes_67 fl_12_128 (by first | rfl | assumption | exact sh_house (by omega) | exact sh_wish (by omega) | exact sh_wor (by omega) | exact sh_bar (by omega) | exact sh_term (by omega) | exact sh_sheet (by omega) | exact sh_items (by omega) | exact sh_sums (by omega)) rfl ?_
      refine wp_iload (pc := 70) dX12_wishes_70 (by first | rfl | assumption | (repeat first | assumption | rfl | refine aG_n ?_ rfl rfl)) ?_
      refine wp_iload (pc := 72) dX12_wishes_72 (by first | rfl | assumption | (repeat first | assumption | rfl | refine aG_n ?_ rfl rfl)) ?_
      refine wp_iadd (pc := 74) dX12_wishes_74 ?_
      refine wp_iald (pc := 75) dX12_wishes_75 (by first | rfl | assumption | exact sh_house (by omega) | exact sh_wish (by omega) | exact sh_wor (by omega) | exact sh_bar (by omega) | exact sh_term (by omega) | exact sh_sheet (by omega) | exact sh_items (by omega) | exact sh_sums (by omega)) (by rw [nI_add]; exact vp_in_nI (by omega) (by decide)) ?_
      refine wp_i2l (pc := 76) dX12_wishes_76 ?_
      refine wp_ldc2 (pc := 77) dX12_wishes_77 cl_12_368 ?_
      refine wp_ldc2 (pc := 80) dX12_wishes_80 cl_12_214 ?_
      refine wp_cS (pc := 83) dX12_wishes_83 lk_12_133 rfl rfl rfl (c_X12_in (fun _ => aK_i ?_) (fun q => absurd (by rw [ct, w_int]; exact c) q))
      refine wp_if_ne (pc := 86) (tgt := 92) dX12_wishes_86 rfl (fun _ => ?_) (fun q => absurd q (by decide))
      refine wp_iinc (pc := 92) dX12_wishes_92 (by decide) (by first | rfl | assumption | (repeat first | assumption | rfl | refine aG_n ?_ rfl rfl)) rfl ?_
      refine wp_goto (pc := 95) (tgt := 59) dX12_wishes_95 rfl ?_
      exact l_wsM1 hs hf kt kf f (t + 1) (by omega) (fun j hj => if e : j = t then e ▸ c else hb j (by omega)) _ (by first | rfl | assumption | (repeat first | assumption | rfl | refine aG_n ?_ rfl rfl)) (by first | rfl | assumption | (repeat first | assumption | rfl | refine aG_n ?_ rfl rfl)) (by first | rfl | assumption | (repeat first | assumption | rfl | refine aG_n ?_ rfl rfl)) (by rw [← nI_i1]; first | rfl | assumption | (repeat first | assumption | rfl | refine aG_n ?_ rfl rfl))
    · refine wp_iload (pc := 59) dX12_wishes_59 (by first | rfl | assumption | (repeat first | assumption | rfl | refine aG_n ?_ rfl rfl)) ?_
      refine wp_bipush (pc := 61) (v := 6) dX12_wishes_61 (by decide) ?_
      refine wp_icmp_ge (pc := 63) (tgt := 98) dX12_wishes_63 rfl (fun q => absurd q (nI_ge (a := t) (b := 6) (by omega) (by omega))) (fun _ => ?_)
      refine wp_aload_n (pc := 66) dX12_wishes_66 (by first | rfl | assumption | (repeat first | assumption | rfl | refine aG_n ?_ rfl rfl)) ?_
      refine wp_getR (pc := 67) dX12_wishes_67 fl_12_128 (by first | rfl | assumption | exact sh_house (by omega) | exact sh_wish (by omega) | exact sh_wor (by omega) | exact sh_bar (by omega) | exact sh_term (by omega) | exact sh_sheet (by omega) | exact sh_items (by omega) | exact sh_sums (by omega)) rfl ?_
      refine wp_iload (pc := 70) dX12_wishes_70 (by first | rfl | assumption | (repeat first | assumption | rfl | refine aG_n ?_ rfl rfl)) ?_
      refine wp_iload (pc := 72) dX12_wishes_72 (by first | rfl | assumption | (repeat first | assumption | rfl | refine aG_n ?_ rfl rfl)) ?_
      refine wp_iadd (pc := 74) dX12_wishes_74 ?_
      refine wp_iald (pc := 75) dX12_wishes_75 (by first | rfl | assumption | exact sh_house (by omega) | exact sh_wish (by omega) | exact sh_wor (by omega) | exact sh_bar (by omega) | exact sh_term (by omega) | exact sh_sheet (by omega) | exact sh_items (by omega) | exact sh_sums (by omega)) (by rw [nI_add]; exact vp_in_nI (by omega) (by decide)) ?_
      refine wp_i2l (pc := 76) dX12_wishes_76 ?_
      refine wp_ldc2 (pc := 77) dX12_wishes_77 cl_12_368 ?_
      refine wp_ldc2 (pc := 80) dX12_wishes_80 cl_12_214 ?_
      refine wp_cS (pc := 83) dX12_wishes_83 lk_12_133 rfl rfl rfl (c_X12_in (fun q => absurd q (by rw [ct, w_int]; exact c)) (fun _ => aK_i ?_))
      refine wp_if_ne (pc := 86) (tgt := 92) dX12_wishes_86 rfl (fun q => absurd q (by decide)) (fun _ => ?_)
      refine wp_bipush (pc := 89) (v := -2) dX12_wishes_89 (by decide) ?_
      refine wp_ireturn (pc := 91) dX12_wishes_91 rfl (by first | rfl | decide | assumption) ?_
      exact kf (fun z => c (z t (by omega)))
theorem l_wsM2 {i : Nat} (hi : i < 4) (hs : s < 4) (hf : fr + 6 ≤ 12) (k : ∀ μ' : Mm, KC μ.1 μ'.1 i 6 (fun q => nI (2 ^ q)) (fun q => μ.1 126 (12 * s + fr + q)) (fun _ => 0) → μ'.2 = μ.2 → Q (some (.int 6)) μ') : ∀ (f t : Nat), t + f = 6 → ∀ μ' : Mm, KC μ.1 μ'.1 i t (fun q => nI (2 ^ q)) (fun q => μ.1 126 (12 * s + fr + q)) (fun _ => 0) → μ'.2 = μ.2 → ∀ L : aL, aL_get L 0 = some (.ref 86) → aL_get L 1 = some (.int (nI i)) → aL_get L 6 = some (.int (nI (12 * s + fr))) → aL_get L 7 = some (.int (nI t)) → WP X mX12_wishes 101 L [] μ' Q
  | 0, t, ht, μ', hK, hr, L, g0, g1, g6, g7 => by
    obtain rfl : t = 6 := by omega
    refine wp_iload (pc := 101) dX12_wishes_101 (by first | rfl | assumption | (repeat first | assumption | rfl | refine aG_n ?_ rfl rfl)) ?_
    refine wp_bipush (pc := 103) (v := 6) dX12_wishes_103 (by decide) ?_
    refine wp_icmp_ge (pc := 105) (tgt := 136) dX12_wishes_105 rfl (fun _ => ?_) (fun q => absurd (nI_le (a := 6) (b := 6) (by omega) (by omega)) q)
    refine wp_bipush (pc := 136) (v := 6) dX12_wishes_136 (by decide) ?_
    refine wp_ireturn (pc := 138) dX12_wishes_138 rfl (by first | rfl | decide | assumption) ?_
    exact k _ hK hr
  | f + 1, t, ht, μ', hK, hr, L, g0, g1, g6, g7 => by
    have ct : (nI (12 * s + fr) + nI t).toNatClampNeg = 12 * s + fr + t := by rw [nI_add, nI_clamp (by omega)]
    have e126 : μ'.1 126 = μ.1 126 := hK.1 126 (by omega)
    refine wp_iload (pc := 101) dX12_wishes_101 (by first | rfl | assumption | (repeat first | assumption | rfl | refine aG_n ?_ rfl rfl)) ?_
    refine wp_bipush (pc := 103) (v := 6) dX12_wishes_103 (by decide) ?_
    refine wp_icmp_ge (pc := 105) (tgt := 136) dX12_wishes_105 rfl (fun q => absurd q (nI_ge (a := t) (b := 6) (by omega) (by omega))) (fun _ => ?_)
    refine wp_aload_n (pc := 108) dX12_wishes_108 (by first | rfl | assumption | (repeat first | assumption | rfl | refine aG_n ?_ rfl rfl)) ?_
    refine wp_iload_n (pc := 109) dX12_wishes_109 (by first | rfl | assumption | (repeat first | assumption | rfl | refine aG_n ?_ rfl rfl)) ?_
    refine wp_iload (pc := 110) dX12_wishes_110 (by first | rfl | assumption | (repeat first | assumption | rfl | refine aG_n ?_ rfl rfl)) ?_
    refine wp_iconst (pc := 112) (v := 1) dX12_wishes_112 (by decide) ?_
    refine wp_iload (pc := 113) dX12_wishes_113 (by first | rfl | assumption | (repeat first | assumption | rfl | refine aG_n ?_ rfl rfl)) ?_
    refine wp_ishl (pc := 115) dX12_wishes_115 ?_
    refine wp_aload_n (pc := 116) dX12_wishes_116 (by first | rfl | assumption | (repeat first | assumption | rfl | refine aG_n ?_ rfl rfl)) ?_
    refine wp_getR (pc := 117) dX12_wishes_117 fl_12_128 (by first | rfl | assumption | exact sh_house (by omega) | exact sh_wish (by omega) | exact sh_wor (by omega) | exact sh_bar (by omega) | exact sh_term (by omega) | exact sh_sheet (by omega) | exact sh_items (by omega) | exact sh_sums (by omega)) rfl ?_
    refine wp_iload (pc := 120) dX12_wishes_120 (by first | rfl | assumption | (repeat first | assumption | rfl | refine aG_n ?_ rfl rfl)) ?_
    refine wp_iload (pc := 122) dX12_wishes_122 (by first | rfl | assumption | (repeat first | assumption | rfl | refine aG_n ?_ rfl rfl)) ?_
    refine wp_iadd (pc := 124) dX12_wishes_124 ?_
    refine wp_iald (pc := 125) dX12_wishes_125 (by first | rfl | assumption | exact sh_house (by omega) | exact sh_wish (by omega) | exact sh_wor (by omega) | exact sh_bar (by omega) | exact sh_term (by omega) | exact sh_sheet (by omega) | exact sh_items (by omega) | exact sh_sums (by omega)) (by rw [nI_add]; exact vp_in_nI (by omega) (by decide)) ?_
    refine wp_iconst (pc := 126) (v := 0) dX12_wishes_126 (by decide) ?_
    refine wp_cV (pc := 127) dX12_wishes_127 lk_12_191 rfl (by decide) rfl (by first | rfl | assumption | exact sh_house (by omega) | exact sh_wish (by omega) | exact sh_wor (by omega) | exact sh_bar (by omega) | exact sh_term (by omega) | exact sh_sheet (by omega) | exact sh_items (by omega) | exact sh_sums (by omega)) rfl rfl ?_
    rw [ct, e126, shl_p t (by omega)]
    refine c_X12_keepClause hi (by omega) (Or.inl rfl) (aK_v ?_)
    refine wp_iinc (pc := 130) dX12_wishes_130 (by decide) (by first | rfl | assumption | (repeat first | assumption | rfl | refine aG_n ?_ rfl rfl)) rfl ?_
    refine wp_goto (pc := 133) (tgt := 101) dX12_wishes_133 rfl ?_
    exact l_wsM2 hi hs hf k f (t + 1) (by omega) _ (by exact KC_s (by omega) hK) (by exact hr) _ (by first | rfl | assumption | (repeat first | assumption | rfl | refine aG_n ?_ rfl rfl)) (by first | rfl | assumption | (repeat first | assumption | rfl | refine aG_n ?_ rfl rfl)) (by first | rfl | assumption | (repeat first | assumption | rfl | refine aG_n ?_ rfl rfl)) (by rw [← nI_i1]; first | rfl | assumption | (repeat first | assumption | rfl | refine aG_n ?_ rfl rfl))
end WISHES
theorem J_wishes (h s l f : Int32) : Jnt mX11_wishes mX12_wishes [.int h, .int s, .int l, .int f] := by
  intro X μ Q hI k
  by_cases c1 : inR h 0 3
  · by_cases c2 : inR s 0 3
    · by_cases c3 : inR l 0 2
      · by_cases c4 : μ.1 73 0 = 1
        · have c5 : μ.1 86 15 = 1 := hI.2.2.2.2.2.1.1 ▸ c4
          refine wp_iload_n (pc := 0) dX11_wishes_0 (by first | rfl | assumption | (repeat first | assumption | rfl | refine aG_n ?_ rfl rfl)) ?_
          refine wp_cS (pc := 1) dX11_wishes_1 lk_11_101 rfl rfl rfl (c_X11_isHouse (fun _ => aK_i ?_) (fun q => absurd c1 q))
          refine wp_if_eq (pc := 4) (tgt := 21) dX11_wishes_4 rfl (fun q => absurd q (by decide)) (fun _ => ?_)
          refine wp_iload_n (pc := 7) dX11_wishes_7 (by first | rfl | assumption | (repeat first | assumption | rfl | refine aG_n ?_ rfl rfl)) ?_
          refine wp_cS (pc := 8) dX11_wishes_8 lk_11_361 rfl rfl rfl (c_X11_isSheet (fun _ => aK_i ?_) (fun q => absurd c2 q))
          refine wp_if_eq (pc := 11) (tgt := 21) dX11_wishes_11 rfl (fun q => absurd q (by decide)) (fun _ => ?_)
          refine wp_iload_n (pc := 14) dX11_wishes_14 (by first | rfl | assumption | (repeat first | assumption | rfl | refine aG_n ?_ rfl rfl)) ?_
          refine wp_cS (pc := 15) dX11_wishes_15 lk_11_364 rfl rfl rfl (c_X11_isLane (fun _ => aK_i ?_) (fun q => absurd c3 q))
          refine wp_if_ne (pc := 18) (tgt := 23) dX11_wishes_18 rfl (fun _ => ?_) (fun q => absurd q (by decide))
          refine wp_aload_n (pc := 23) dX11_wishes_23 (by first | rfl | assumption | (repeat first | assumption | rfl | refine aG_n ?_ rfl rfl)) ?_
          refine wp_getR (pc := 24) dX11_wishes_24 fl_11_92 (by first | rfl | assumption | exact sh_house (by omega) | exact sh_wish (by omega) | exact sh_wor (by omega) | exact sh_bar (by omega) | exact sh_term (by omega) | exact sh_sheet (by omega) | exact sh_items (by omega) | exact sh_sums (by omega)) rfl ?_
          refine wp_cV (pc := 27) dX11_wishes_27 lk_11_104 rfl (by decide) rfl (by first | rfl | assumption | exact sh_house (by omega) | exact sh_wish (by omega) | exact sh_wor (by omega) | exact sh_bar (by omega) | exact sh_term (by omega) | exact sh_sheet (by omega) | exact sh_items (by omega) | exact sh_sums (by omega)) rfl rfl (c_X7_isOpen (fun _ => aK_i ?_) (fun q => absurd c4 q))
          refine wp_if_eq (pc := 30) (tgt := 36) dX11_wishes_30 rfl (fun q => absurd q (by decide)) (fun _ => ?_)
          refine wp_bipush (pc := 33) (v := -2) dX11_wishes_33 (by decide) ?_
          refine wp_ireturn (pc := 35) dX11_wishes_35 rfl (by first | rfl | decide | assumption) ?_
          refine k _ _ (fun Q' k' => ?_)
          refine wp_iload_n (pc := 0) dX12_wishes_0 (by first | rfl | assumption | (repeat first | assumption | rfl | refine aG_n ?_ rfl rfl)) ?_
          refine wp_cS (pc := 1) dX12_wishes_1 lk_12_143 rfl rfl rfl (c_X12_isHouse (fun _ => aK_i ?_) (fun q => absurd c1 q))
          refine wp_if_eq (pc := 4) (tgt := 15) dX12_wishes_4 rfl (fun q => absurd q (by decide)) (fun _ => ?_)
          refine wp_iload_n (pc := 7) dX12_wishes_7 (by first | rfl | assumption | (repeat first | assumption | rfl | refine aG_n ?_ rfl rfl)) ?_
          refine wp_iload_n (pc := 8) dX12_wishes_8 (by first | rfl | assumption | (repeat first | assumption | rfl | refine aG_n ?_ rfl rfl)) ?_
          refine wp_cS (pc := 9) dX12_wishes_9 lk_12_361 rfl rfl rfl (c_X12_isSheet (fun _ => aK_i ?_) (fun q => absurd ⟨c2, c3⟩ q))
          refine wp_if_ne (pc := 12) (tgt := 17) dX12_wishes_12 rfl (fun _ => ?_) (fun q => absurd q (by decide))
          refine wp_aload_n (pc := 17) dX12_wishes_17 (by first | rfl | assumption | (repeat first | assumption | rfl | refine aG_n ?_ rfl rfl)) ?_
          refine wp_cV (pc := 18) dX12_wishes_18 lk_12_147 rfl (by decide) rfl (by first | rfl | assumption | exact sh_house (by omega) | exact sh_wish (by omega) | exact sh_wor (by omega) | exact sh_bar (by omega) | exact sh_term (by omega) | exact sh_sheet (by omega) | exact sh_items (by omega) | exact sh_sums (by omega)) rfl rfl (c_X12_isTalking (fun _ => aK_i ?_) (fun q => absurd c5 q))
          refine wp_if_eq (pc := 21) (tgt := 27) dX12_wishes_21 rfl (fun q => absurd q (by decide)) (fun _ => ?_)
          refine wp_bipush (pc := 24) (v := -2) dX12_wishes_24 (by decide) ?_
          refine wp_ireturn (pc := 26) dX12_wishes_26 rfl (by first | rfl | decide | assumption) ?_
          exact k' _ hI
        · have c5 : ¬ μ.1 86 15 = 1 := fun z => c4 (hI.2.2.2.2.2.1.1.trans z)
          obtain ⟨t, ht, rfl⟩ := inR_of (n := 3) c2
          obtain ⟨i, hi, rfl⟩ := inR_of (n := 3) c1
          have hh := hI.2.2.2.2.2.2.2.2.1 t (by omega)
          have e1 := hh.1
          by_cases a1 : μ.1 124 t = -1
          · refine wp_iload_n (pc := 0) dX11_wishes_0 (by first | rfl | assumption | (repeat first | assumption | rfl | refine aG_n ?_ rfl rfl)) ?_
            refine wp_cS (pc := 1) dX11_wishes_1 lk_11_101 rfl rfl rfl (c_X11_isHouse (fun _ => aK_i ?_) (fun q => absurd c1 q))
            refine wp_if_eq (pc := 4) (tgt := 21) dX11_wishes_4 rfl (fun q => absurd q (by decide)) (fun _ => ?_)
            refine wp_iload_n (pc := 7) dX11_wishes_7 (by first | rfl | assumption | (repeat first | assumption | rfl | refine aG_n ?_ rfl rfl)) ?_
            refine wp_cS (pc := 8) dX11_wishes_8 lk_11_361 rfl rfl rfl (c_X11_isSheet (fun _ => aK_i ?_) (fun q => absurd c2 q))
            refine wp_if_eq (pc := 11) (tgt := 21) dX11_wishes_11 rfl (fun q => absurd q (by decide)) (fun _ => ?_)
            refine wp_iload_n (pc := 14) dX11_wishes_14 (by first | rfl | assumption | (repeat first | assumption | rfl | refine aG_n ?_ rfl rfl)) ?_
            refine wp_cS (pc := 15) dX11_wishes_15 lk_11_364 rfl rfl rfl (c_X11_isLane (fun _ => aK_i ?_) (fun q => absurd c3 q))
            refine wp_if_ne (pc := 18) (tgt := 23) dX11_wishes_18 rfl (fun _ => ?_) (fun q => absurd q (by decide))
            refine wp_aload_n (pc := 23) dX11_wishes_23 (by first | rfl | assumption | (repeat first | assumption | rfl | refine aG_n ?_ rfl rfl)) ?_
            refine wp_getR (pc := 24) dX11_wishes_24 fl_11_92 (by first | rfl | assumption | exact sh_house (by omega) | exact sh_wish (by omega) | exact sh_wor (by omega) | exact sh_bar (by omega) | exact sh_term (by omega) | exact sh_sheet (by omega) | exact sh_items (by omega) | exact sh_sums (by omega)) rfl ?_
            refine wp_cV (pc := 27) dX11_wishes_27 lk_11_104 rfl (by decide) rfl (by first | rfl | assumption | exact sh_house (by omega) | exact sh_wish (by omega) | exact sh_wor (by omega) | exact sh_bar (by omega) | exact sh_term (by omega) | exact sh_sheet (by omega) | exact sh_items (by omega) | exact sh_sums (by omega)) rfl rfl (c_X7_isOpen (fun q => absurd q c4) (fun _ => aK_i ?_))
            refine wp_if_eq (pc := 30) (tgt := 36) dX11_wishes_30 rfl (fun _ => ?_) (fun q => absurd q (by decide))
            refine wp_aload_n (pc := 36) dX11_wishes_36 (by first | rfl | assumption | (repeat first | assumption | rfl | refine aG_n ?_ rfl rfl)) ?_
            refine wp_getR (pc := 37) dX11_wishes_37 fl_11_66 (by first | rfl | assumption | exact sh_house (by omega) | exact sh_wish (by omega) | exact sh_wor (by omega) | exact sh_bar (by omega) | exact sh_term (by omega) | exact sh_sheet (by omega) | exact sh_items (by omega) | exact sh_sums (by omega)) rfl ?_
            refine wp_iload_n (pc := 40) dX11_wishes_40 (by first | rfl | assumption | (repeat first | assumption | rfl | refine aG_n ?_ rfl rfl)) ?_
            refine wp_aald (pc := 41) dX11_wishes_41 (by first | rfl | assumption | exact sh_house (by omega) | exact sh_wish (by omega) | exact sh_wor (by omega) | exact sh_bar (by omega) | exact sh_term (by omega) | exact sh_sheet (by omega) | exact sh_items (by omega) | exact sh_sums (by omega)) (vp_in_nI (by omega) (by decide)) (by decide) (el_sheet (by omega)) ?_
            refine wp_iload_n (pc := 42) dX11_wishes_42 (by first | rfl | assumption | (repeat first | assumption | rfl | refine aG_n ?_ rfl rfl)) ?_
            refine wp_iload (pc := 43) dX11_wishes_43 (by first | rfl | assumption | (repeat first | assumption | rfl | refine aG_n ?_ rfl rfl)) ?_
            refine wp_bipush (pc := 45) (v := 6) dX11_wishes_45 (by decide) ?_
            refine wp_cV (pc := 47) dX11_wishes_47 lk_11_377 rfl (by decide) rfl (by first | rfl | assumption | exact sh_house (by omega) | exact sh_wish (by omega) | exact sh_wor (by omega) | exact sh_bar (by omega) | exact sh_term (by omega) | exact sh_sheet (by omega) | exact sh_items (by omega) | exact sh_sums (by omega)) rfl rfl (c_X6_refusal (by omega) (fun _ => aK_i ?_) (fun q => absurd (e1.trans a1) q) (fun q => absurd (e1.trans a1) q) (fun q => absurd (e1.trans a1) q))
            refine wp_istore (pc := 50) dX11_wishes_50 (by decide) ?_
            refine wp_iload (pc := 52) dX11_wishes_52 (by first | rfl | assumption | (repeat first | assumption | rfl | refine aG_n ?_ rfl rfl)) ?_
            refine wp_if_ge (pc := 54) (tgt := 60) dX11_wishes_54 rfl (fun q => absurd q (by decide)) (fun _ => ?_)
            refine wp_iload (pc := 57) dX11_wishes_57 (by first | rfl | assumption | (repeat first | assumption | rfl | refine aG_n ?_ rfl rfl)) ?_
            refine wp_ireturn (pc := 59) dX11_wishes_59 rfl (by first | rfl | decide | assumption) ?_
            refine k _ _ (fun Q' k' => ?_)
            refine wp_iload_n (pc := 0) dX12_wishes_0 (by first | rfl | assumption | (repeat first | assumption | rfl | refine aG_n ?_ rfl rfl)) ?_
            refine wp_cS (pc := 1) dX12_wishes_1 lk_12_143 rfl rfl rfl (c_X12_isHouse (fun _ => aK_i ?_) (fun q => absurd c1 q))
            refine wp_if_eq (pc := 4) (tgt := 15) dX12_wishes_4 rfl (fun q => absurd q (by decide)) (fun _ => ?_)
            refine wp_iload_n (pc := 7) dX12_wishes_7 (by first | rfl | assumption | (repeat first | assumption | rfl | refine aG_n ?_ rfl rfl)) ?_
            refine wp_iload_n (pc := 8) dX12_wishes_8 (by first | rfl | assumption | (repeat first | assumption | rfl | refine aG_n ?_ rfl rfl)) ?_
            refine wp_cS (pc := 9) dX12_wishes_9 lk_12_361 rfl rfl rfl (c_X12_isSheet (fun _ => aK_i ?_) (fun q => absurd ⟨c2, c3⟩ q))
            refine wp_if_ne (pc := 12) (tgt := 17) dX12_wishes_12 rfl (fun _ => ?_) (fun q => absurd q (by decide))
            refine wp_aload_n (pc := 17) dX12_wishes_17 (by first | rfl | assumption | (repeat first | assumption | rfl | refine aG_n ?_ rfl rfl)) ?_
            refine wp_cV (pc := 18) dX12_wishes_18 lk_12_147 rfl (by decide) rfl (by first | rfl | assumption | exact sh_house (by omega) | exact sh_wish (by omega) | exact sh_wor (by omega) | exact sh_bar (by omega) | exact sh_term (by omega) | exact sh_sheet (by omega) | exact sh_items (by omega) | exact sh_sums (by omega)) rfl rfl (c_X12_isTalking (fun q => absurd q c5) (fun _ => aK_i ?_))
            refine wp_if_eq (pc := 21) (tgt := 27) dX12_wishes_21 rfl (fun _ => ?_) (fun q => absurd q (by decide))
            refine wp_aload_n (pc := 27) dX12_wishes_27 (by first | rfl | assumption | (repeat first | assumption | rfl | refine aG_n ?_ rfl rfl)) ?_
            refine wp_iload_n (pc := 28) dX12_wishes_28 (by first | rfl | assumption | (repeat first | assumption | rfl | refine aG_n ?_ rfl rfl)) ?_
            refine wp_iload_n (pc := 29) dX12_wishes_29 (by first | rfl | assumption | (repeat first | assumption | rfl | refine aG_n ?_ rfl rfl)) ?_
            refine wp_iload (pc := 30) dX12_wishes_30 (by first | rfl | assumption | (repeat first | assumption | rfl | refine aG_n ?_ rfl rfl)) ?_
            refine wp_bipush (pc := 32) (v := 6) dX12_wishes_32 (by decide) ?_
            refine wp_cV (pc := 34) dX12_wishes_34 lk_12_364 rfl (by decide) rfl (by first | rfl | assumption | exact sh_house (by omega) | exact sh_wish (by omega) | exact sh_wor (by omega) | exact sh_bar (by omega) | exact sh_term (by omega) | exact sh_sheet (by omega) | exact sh_items (by omega) | exact sh_sums (by omega)) rfl rfl (c_X12_against (by omega) c3 hh.2.1 (fun _ => aK_i ?_) (fun q => absurd a1 q) (fun q => absurd a1 q) (fun q => absurd a1 q))
            refine wp_istore (pc := 37) dX12_wishes_37 (by decide) ?_
            refine wp_iload (pc := 39) dX12_wishes_39 (by first | rfl | assumption | (repeat first | assumption | rfl | refine aG_n ?_ rfl rfl)) ?_
            refine wp_if_ge (pc := 41) (tgt := 47) dX12_wishes_41 rfl (fun q => absurd q (by decide)) (fun _ => ?_)
            refine wp_iload (pc := 44) dX12_wishes_44 (by first | rfl | assumption | (repeat first | assumption | rfl | refine aG_n ?_ rfl rfl)) ?_
            refine wp_ireturn (pc := 46) dX12_wishes_46 rfl (by first | rfl | decide | assumption) ?_
            exact k' _ hI
          · by_cases a2 : μ.1 124 t = l
            · obtain ⟨n, n1, n2, n3⟩ := hh.2.2.1 a1
              have e2 : μ.1 (78 + 2 * t) 2 = μ.1 125 t := n2.trans n3.symm
              by_cases a3 : f < 0 ∨ μ.1 125 t - 6 < f
              · refine wp_iload_n (pc := 0) dX11_wishes_0 (by first | rfl | assumption | (repeat first | assumption | rfl | refine aG_n ?_ rfl rfl)) ?_
                refine wp_cS (pc := 1) dX11_wishes_1 lk_11_101 rfl rfl rfl (c_X11_isHouse (fun _ => aK_i ?_) (fun q => absurd c1 q))
                refine wp_if_eq (pc := 4) (tgt := 21) dX11_wishes_4 rfl (fun q => absurd q (by decide)) (fun _ => ?_)
                refine wp_iload_n (pc := 7) dX11_wishes_7 (by first | rfl | assumption | (repeat first | assumption | rfl | refine aG_n ?_ rfl rfl)) ?_
                refine wp_cS (pc := 8) dX11_wishes_8 lk_11_361 rfl rfl rfl (c_X11_isSheet (fun _ => aK_i ?_) (fun q => absurd c2 q))
                refine wp_if_eq (pc := 11) (tgt := 21) dX11_wishes_11 rfl (fun q => absurd q (by decide)) (fun _ => ?_)
                refine wp_iload_n (pc := 14) dX11_wishes_14 (by first | rfl | assumption | (repeat first | assumption | rfl | refine aG_n ?_ rfl rfl)) ?_
                refine wp_cS (pc := 15) dX11_wishes_15 lk_11_364 rfl rfl rfl (c_X11_isLane (fun _ => aK_i ?_) (fun q => absurd c3 q))
                refine wp_if_ne (pc := 18) (tgt := 23) dX11_wishes_18 rfl (fun _ => ?_) (fun q => absurd q (by decide))
                refine wp_aload_n (pc := 23) dX11_wishes_23 (by first | rfl | assumption | (repeat first | assumption | rfl | refine aG_n ?_ rfl rfl)) ?_
                refine wp_getR (pc := 24) dX11_wishes_24 fl_11_92 (by first | rfl | assumption | exact sh_house (by omega) | exact sh_wish (by omega) | exact sh_wor (by omega) | exact sh_bar (by omega) | exact sh_term (by omega) | exact sh_sheet (by omega) | exact sh_items (by omega) | exact sh_sums (by omega)) rfl ?_
                refine wp_cV (pc := 27) dX11_wishes_27 lk_11_104 rfl (by decide) rfl (by first | rfl | assumption | exact sh_house (by omega) | exact sh_wish (by omega) | exact sh_wor (by omega) | exact sh_bar (by omega) | exact sh_term (by omega) | exact sh_sheet (by omega) | exact sh_items (by omega) | exact sh_sums (by omega)) rfl rfl (c_X7_isOpen (fun q => absurd q c4) (fun _ => aK_i ?_))
                refine wp_if_eq (pc := 30) (tgt := 36) dX11_wishes_30 rfl (fun _ => ?_) (fun q => absurd q (by decide))
                refine wp_aload_n (pc := 36) dX11_wishes_36 (by first | rfl | assumption | (repeat first | assumption | rfl | refine aG_n ?_ rfl rfl)) ?_
                refine wp_getR (pc := 37) dX11_wishes_37 fl_11_66 (by first | rfl | assumption | exact sh_house (by omega) | exact sh_wish (by omega) | exact sh_wor (by omega) | exact sh_bar (by omega) | exact sh_term (by omega) | exact sh_sheet (by omega) | exact sh_items (by omega) | exact sh_sums (by omega)) rfl ?_
                refine wp_iload_n (pc := 40) dX11_wishes_40 (by first | rfl | assumption | (repeat first | assumption | rfl | refine aG_n ?_ rfl rfl)) ?_
                refine wp_aald (pc := 41) dX11_wishes_41 (by first | rfl | assumption | exact sh_house (by omega) | exact sh_wish (by omega) | exact sh_wor (by omega) | exact sh_bar (by omega) | exact sh_term (by omega) | exact sh_sheet (by omega) | exact sh_items (by omega) | exact sh_sums (by omega)) (vp_in_nI (by omega) (by decide)) (by decide) (el_sheet (by omega)) ?_
                refine wp_iload_n (pc := 42) dX11_wishes_42 (by first | rfl | assumption | (repeat first | assumption | rfl | refine aG_n ?_ rfl rfl)) ?_
                refine wp_iload (pc := 43) dX11_wishes_43 (by first | rfl | assumption | (repeat first | assumption | rfl | refine aG_n ?_ rfl rfl)) ?_
                refine wp_bipush (pc := 45) (v := 6) dX11_wishes_45 (by decide) ?_
                refine wp_cV (pc := 47) dX11_wishes_47 lk_11_377 rfl (by decide) rfl (by first | rfl | assumption | exact sh_house (by omega) | exact sh_wish (by omega) | exact sh_wor (by omega) | exact sh_bar (by omega) | exact sh_term (by omega) | exact sh_sheet (by omega) | exact sh_items (by omega) | exact sh_sums (by omega)) rfl rfl (c_X6_refusal (by omega) (fun q => absurd (e1.symm.trans q) a1) (fun _ q => absurd (e1.trans a2) q) (fun _ _ _ => aK_i ?_) (fun _ _ q => absurd (by rw [e2]; exact a3) q))
                refine wp_istore (pc := 50) dX11_wishes_50 (by decide) ?_
                refine wp_iload (pc := 52) dX11_wishes_52 (by first | rfl | assumption | (repeat first | assumption | rfl | refine aG_n ?_ rfl rfl)) ?_
                refine wp_if_ge (pc := 54) (tgt := 60) dX11_wishes_54 rfl (fun q => absurd q (by decide)) (fun _ => ?_)
                refine wp_iload (pc := 57) dX11_wishes_57 (by first | rfl | assumption | (repeat first | assumption | rfl | refine aG_n ?_ rfl rfl)) ?_
                refine wp_ireturn (pc := 59) dX11_wishes_59 rfl (by first | rfl | decide | assumption) ?_
                refine k _ _ (fun Q' k' => ?_)
                refine wp_iload_n (pc := 0) dX12_wishes_0 (by first | rfl | assumption | (repeat first | assumption | rfl | refine aG_n ?_ rfl rfl)) ?_
                refine wp_cS (pc := 1) dX12_wishes_1 lk_12_143 rfl rfl rfl (c_X12_isHouse (fun _ => aK_i ?_) (fun q => absurd c1 q))
                refine wp_if_eq (pc := 4) (tgt := 15) dX12_wishes_4 rfl (fun q => absurd q (by decide)) (fun _ => ?_)
                refine wp_iload_n (pc := 7) dX12_wishes_7 (by first | rfl | assumption | (repeat first | assumption | rfl | refine aG_n ?_ rfl rfl)) ?_
                refine wp_iload_n (pc := 8) dX12_wishes_8 (by first | rfl | assumption | (repeat first | assumption | rfl | refine aG_n ?_ rfl rfl)) ?_
                refine wp_cS (pc := 9) dX12_wishes_9 lk_12_361 rfl rfl rfl (c_X12_isSheet (fun _ => aK_i ?_) (fun q => absurd ⟨c2, c3⟩ q))
                refine wp_if_ne (pc := 12) (tgt := 17) dX12_wishes_12 rfl (fun _ => ?_) (fun q => absurd q (by decide))
                refine wp_aload_n (pc := 17) dX12_wishes_17 (by first | rfl | assumption | (repeat first | assumption | rfl | refine aG_n ?_ rfl rfl)) ?_
                refine wp_cV (pc := 18) dX12_wishes_18 lk_12_147 rfl (by decide) rfl (by first | rfl | assumption | exact sh_house (by omega) | exact sh_wish (by omega) | exact sh_wor (by omega) | exact sh_bar (by omega) | exact sh_term (by omega) | exact sh_sheet (by omega) | exact sh_items (by omega) | exact sh_sums (by omega)) rfl rfl (c_X12_isTalking (fun q => absurd q c5) (fun _ => aK_i ?_))
                refine wp_if_eq (pc := 21) (tgt := 27) dX12_wishes_21 rfl (fun _ => ?_) (fun q => absurd q (by decide))
                refine wp_aload_n (pc := 27) dX12_wishes_27 (by first | rfl | assumption | (repeat first | assumption | rfl | refine aG_n ?_ rfl rfl)) ?_
                refine wp_iload_n (pc := 28) dX12_wishes_28 (by first | rfl | assumption | (repeat first | assumption | rfl | refine aG_n ?_ rfl rfl)) ?_
                refine wp_iload_n (pc := 29) dX12_wishes_29 (by first | rfl | assumption | (repeat first | assumption | rfl | refine aG_n ?_ rfl rfl)) ?_
                refine wp_iload (pc := 30) dX12_wishes_30 (by first | rfl | assumption | (repeat first | assumption | rfl | refine aG_n ?_ rfl rfl)) ?_
                refine wp_bipush (pc := 32) (v := 6) dX12_wishes_32 (by decide) ?_
                refine wp_cV (pc := 34) dX12_wishes_34 lk_12_364 rfl (by decide) rfl (by first | rfl | assumption | exact sh_house (by omega) | exact sh_wish (by omega) | exact sh_wor (by omega) | exact sh_bar (by omega) | exact sh_term (by omega) | exact sh_sheet (by omega) | exact sh_items (by omega) | exact sh_sums (by omega)) rfl rfl (c_X12_against (by omega) c3 hh.2.1 (fun q => absurd q a1) (fun _ q => absurd a2 q) (fun _ _ _ => aK_i ?_) (fun _ _ q => absurd a3 q))
                refine wp_istore (pc := 37) dX12_wishes_37 (by decide) ?_
                refine wp_iload (pc := 39) dX12_wishes_39 (by first | rfl | assumption | (repeat first | assumption | rfl | refine aG_n ?_ rfl rfl)) ?_
                refine wp_if_ge (pc := 41) (tgt := 47) dX12_wishes_41 rfl (fun q => absurd q (by decide)) (fun _ => ?_)
                refine wp_iload (pc := 44) dX12_wishes_44 (by first | rfl | assumption | (repeat first | assumption | rfl | refine aG_n ?_ rfl rfl)) ?_
                refine wp_ireturn (pc := 46) dX12_wishes_46 rfl (by first | rfl | decide | assumption) ?_
                exact k' _ hI
              · obtain ⟨j, hj, rfl⟩ : ∃ j, j + 6 ≤ n ∧ f = nI j := by
                  have h0 : ¬ f < 0 := fun z => a3 (Or.inl z)
                  obtain ⟨j, hj, rfl⟩ := nI_of h0
                  refine ⟨j, ?_, rfl⟩
                  have h1 : ¬ μ.1 125 t - 6 < nI j := fun z => a3 (Or.inr z)
                  rw [n3, i_lt, nI_toInt hj, show (6 : Int32) = nI 6 from rfl, pk_sub_toInt (by omega) (by omega)] at h1
                  omega
                have hit : ∀ y, y < 12 → μ.1 (79 + 2 * t) y = μ.1 126 (12 * t + y) := hh.2.2.2
                have e12 : (12 : Int32) * nI t + nI j = nI (12 * t + j) := by rw [n12, nI_add]
                by_cases a4 : ∀ y, y < 6 → inR (μ.1 (79 + 2 * t) (j + y)) (-99) 99
                · obtain ⟨st, hst, s11, -⟩ := hI.2.2.2.2.2.2.2.2.2
                  refine wp_iload_n (pc := 0) dX11_wishes_0 (by first | rfl | assumption | (repeat first | assumption | rfl | refine aG_n ?_ rfl rfl)) ?_
                  refine wp_cS (pc := 1) dX11_wishes_1 lk_11_101 rfl rfl rfl (c_X11_isHouse (fun _ => aK_i ?_) (fun q => absurd c1 q))
                  refine wp_if_eq (pc := 4) (tgt := 21) dX11_wishes_4 rfl (fun q => absurd q (by decide)) (fun _ => ?_)
                  refine wp_iload_n (pc := 7) dX11_wishes_7 (by first | rfl | assumption | (repeat first | assumption | rfl | refine aG_n ?_ rfl rfl)) ?_
                  refine wp_cS (pc := 8) dX11_wishes_8 lk_11_361 rfl rfl rfl (c_X11_isSheet (fun _ => aK_i ?_) (fun q => absurd c2 q))
                  refine wp_if_eq (pc := 11) (tgt := 21) dX11_wishes_11 rfl (fun q => absurd q (by decide)) (fun _ => ?_)
                  refine wp_iload_n (pc := 14) dX11_wishes_14 (by first | rfl | assumption | (repeat first | assumption | rfl | refine aG_n ?_ rfl rfl)) ?_
                  refine wp_cS (pc := 15) dX11_wishes_15 lk_11_364 rfl rfl rfl (c_X11_isLane (fun _ => aK_i ?_) (fun q => absurd c3 q))
                  refine wp_if_ne (pc := 18) (tgt := 23) dX11_wishes_18 rfl (fun _ => ?_) (fun q => absurd q (by decide))
                  refine wp_aload_n (pc := 23) dX11_wishes_23 (by first | rfl | assumption | (repeat first | assumption | rfl | refine aG_n ?_ rfl rfl)) ?_
                  refine wp_getR (pc := 24) dX11_wishes_24 fl_11_92 (by first | rfl | assumption | exact sh_house (by omega) | exact sh_wish (by omega) | exact sh_wor (by omega) | exact sh_bar (by omega) | exact sh_term (by omega) | exact sh_sheet (by omega) | exact sh_items (by omega) | exact sh_sums (by omega)) rfl ?_
                  refine wp_cV (pc := 27) dX11_wishes_27 lk_11_104 rfl (by decide) rfl (by first | rfl | assumption | exact sh_house (by omega) | exact sh_wish (by omega) | exact sh_wor (by omega) | exact sh_bar (by omega) | exact sh_term (by omega) | exact sh_sheet (by omega) | exact sh_items (by omega) | exact sh_sums (by omega)) rfl rfl (c_X7_isOpen (fun q => absurd q c4) (fun _ => aK_i ?_))
                  refine wp_if_eq (pc := 30) (tgt := 36) dX11_wishes_30 rfl (fun _ => ?_) (fun q => absurd q (by decide))
                  refine wp_aload_n (pc := 36) dX11_wishes_36 (by first | rfl | assumption | (repeat first | assumption | rfl | refine aG_n ?_ rfl rfl)) ?_
                  refine wp_getR (pc := 37) dX11_wishes_37 fl_11_66 (by first | rfl | assumption | exact sh_house (by omega) | exact sh_wish (by omega) | exact sh_wor (by omega) | exact sh_bar (by omega) | exact sh_term (by omega) | exact sh_sheet (by omega) | exact sh_items (by omega) | exact sh_sums (by omega)) rfl ?_
                  refine wp_iload_n (pc := 40) dX11_wishes_40 (by first | rfl | assumption | (repeat first | assumption | rfl | refine aG_n ?_ rfl rfl)) ?_
                  refine wp_aald (pc := 41) dX11_wishes_41 (by first | rfl | assumption | exact sh_house (by omega) | exact sh_wish (by omega) | exact sh_wor (by omega) | exact sh_bar (by omega) | exact sh_term (by omega) | exact sh_sheet (by omega) | exact sh_items (by omega) | exact sh_sums (by omega)) (vp_in_nI (by omega) (by decide)) (by decide) (el_sheet (by omega)) ?_
                  refine wp_iload_n (pc := 42) dX11_wishes_42 (by first | rfl | assumption | (repeat first | assumption | rfl | refine aG_n ?_ rfl rfl)) ?_
                  refine wp_iload (pc := 43) dX11_wishes_43 (by first | rfl | assumption | (repeat first | assumption | rfl | refine aG_n ?_ rfl rfl)) ?_
                  refine wp_bipush (pc := 45) (v := 6) dX11_wishes_45 (by decide) ?_
                  refine wp_cV (pc := 47) dX11_wishes_47 lk_11_377 rfl (by decide) rfl (by first | rfl | assumption | exact sh_house (by omega) | exact sh_wish (by omega) | exact sh_wor (by omega) | exact sh_bar (by omega) | exact sh_term (by omega) | exact sh_sheet (by omega) | exact sh_items (by omega) | exact sh_sums (by omega)) rfl rfl (c_X6_refusal (by omega) (fun q => absurd (e1.symm.trans q) a1) (fun _ q => absurd (e1.trans a2) q) (fun _ _ q => absurd (by rw [← e2]; exact q) a3) (fun _ _ _ => aK_i ?_))
                  refine wp_istore (pc := 50) dX11_wishes_50 (by decide) ?_
                  refine wp_iload (pc := 52) dX11_wishes_52 (by first | rfl | assumption | (repeat first | assumption | rfl | refine aG_n ?_ rfl rfl)) ?_
                  refine wp_if_ge (pc := 54) (tgt := 60) dX11_wishes_54 rfl (fun _ => ?_) (fun q => absurd (by decide) q)
                  refine wp_aload_n (pc := 60) dX11_wishes_60 (by first | rfl | assumption | (repeat first | assumption | rfl | refine aG_n ?_ rfl rfl)) ?_
                  refine wp_getR (pc := 61) dX11_wishes_61 fl_11_66 (by first | rfl | assumption | exact sh_house (by omega) | exact sh_wish (by omega) | exact sh_wor (by omega) | exact sh_bar (by omega) | exact sh_term (by omega) | exact sh_sheet (by omega) | exact sh_items (by omega) | exact sh_sums (by omega)) rfl ?_
                  refine wp_iload_n (pc := 64) dX11_wishes_64 (by first | rfl | assumption | (repeat first | assumption | rfl | refine aG_n ?_ rfl rfl)) ?_
                  refine wp_aald (pc := 65) dX11_wishes_65 (by first | rfl | assumption | exact sh_house (by omega) | exact sh_wish (by omega) | exact sh_wor (by omega) | exact sh_bar (by omega) | exact sh_term (by omega) | exact sh_sheet (by omega) | exact sh_items (by omega) | exact sh_sums (by omega)) (vp_in_nI (by omega) (by decide)) (by decide) (el_sheet (by omega)) ?_
                  refine wp_iload (pc := 66) dX11_wishes_66 (by first | rfl | assumption | (repeat first | assumption | rfl | refine aG_n ?_ rfl rfl)) ?_
                  refine wp_bipush (pc := 68) (v := 6) dX11_wishes_68 (by decide) ?_
                  refine wp_bipush (pc := 70) (v := 99) dX11_wishes_70 (by decide) ?_
                  refine wp_cV (pc := 72) dX11_wishes_72 lk_11_382 rfl (by decide) rfl (by first | rfl | assumption | exact sh_house (by omega) | exact sh_wish (by omega) | exact sh_wor (by omega) | exact sh_bar (by omega) | exact sh_term (by omega) | exact sh_sheet (by omega) | exact sh_items (by omega) | exact sh_sums (by omega)) rfl rfl (c_X6_areWithin (show t < 4 by omega) (by omega) (fun _ => aK_i ?_) (fun q => absurd a4 q))
                  refine wp_if_ne (pc := 75) (tgt := 81) dX11_wishes_75 rfl (fun _ => ?_) (fun q => absurd q (by decide))
                  refine wp_aload_n (pc := 81) dX11_wishes_81 (by first | rfl | assumption | (repeat first | assumption | rfl | refine aG_n ?_ rfl rfl)) ?_
                  refine wp_getR (pc := 82) dX11_wishes_82 fl_11_11 (by first | rfl | assumption | exact sh_house (by omega) | exact sh_wish (by omega) | exact sh_wor (by omega) | exact sh_bar (by omega) | exact sh_term (by omega) | exact sh_sheet (by omega) | exact sh_items (by omega) | exact sh_sums (by omega)) rfl ?_
                  refine wp_iload_n (pc := 85) dX11_wishes_85 (by first | rfl | assumption | (repeat first | assumption | rfl | refine aG_n ?_ rfl rfl)) ?_
                  refine wp_aald (pc := 86) dX11_wishes_86 (by first | rfl | assumption | exact sh_house (by omega) | exact sh_wish (by omega) | exact sh_wor (by omega) | exact sh_bar (by omega) | exact sh_term (by omega) | exact sh_sheet (by omega) | exact sh_items (by omega) | exact sh_sums (by omega)) (vp_in_nI (by omega) (by decide)) (by decide) (el_house (by omega)) ?_
                  refine wp_getR (pc := 87) dX11_wishes_87 fl_11_127 (by first | rfl | assumption | exact sh_house (by omega) | exact sh_wish (by omega) | exact sh_wor (by omega) | exact sh_bar (by omega) | exact sh_term (by omega) | exact sh_sheet (by omega) | exact sh_items (by omega) | exact sh_sums (by omega)) rfl ?_
                  refine wp_aload_n (pc := 90) dX11_wishes_90 (by first | rfl | assumption | (repeat first | assumption | rfl | refine aG_n ?_ rfl rfl)) ?_
                  refine wp_getR (pc := 91) dX11_wishes_91 fl_11_66 (by first | rfl | assumption | exact sh_house (by omega) | exact sh_wish (by omega) | exact sh_wor (by omega) | exact sh_bar (by omega) | exact sh_term (by omega) | exact sh_sheet (by omega) | exact sh_items (by omega) | exact sh_sums (by omega)) rfl ?_
                  refine wp_iload_n (pc := 94) dX11_wishes_94 (by first | rfl | assumption | (repeat first | assumption | rfl | refine aG_n ?_ rfl rfl)) ?_
                  refine wp_aald (pc := 95) dX11_wishes_95 (by first | rfl | assumption | exact sh_house (by omega) | exact sh_wish (by omega) | exact sh_wor (by omega) | exact sh_bar (by omega) | exact sh_term (by omega) | exact sh_sheet (by omega) | exact sh_items (by omega) | exact sh_sums (by omega)) (vp_in_nI (by omega) (by decide)) (by decide) (el_sheet (by omega)) ?_
                  refine wp_getR (pc := 96) dX11_wishes_96 fl_11_385 (by first | rfl | assumption | exact sh_house (by omega) | exact sh_wish (by omega) | exact sh_wor (by omega) | exact sh_bar (by omega) | exact sh_term (by omega) | exact sh_sheet (by omega) | exact sh_items (by omega) | exact sh_sums (by omega)) rfl ?_
                  refine wp_iload (pc := 99) dX11_wishes_99 (by first | rfl | assumption | (repeat first | assumption | rfl | refine aG_n ?_ rfl rfl)) ?_
                  refine wp_cV (pc := 101) dX11_wishes_101 lk_11_388 rfl (by decide) rfl (by first | rfl | assumption | exact sh_house (by omega) | exact sh_wish (by omega) | exact sh_wor (by omega) | exact sh_bar (by omega) | exact sh_term (by omega) | exact sh_sheet (by omega) | exact sh_items (by omega) | exact sh_sums (by omega)) rfl rfl ?_
                  refine c_X10_tellAlone (W := 56 + 4 * i) (Wsh_h (by omega)) (sh_items (by omega)) (by omega) (by omega) (by omega) (fun μ1 o1 z1 w1 => aK_v ?_)
                  have x11 : μ1.1 11 1 = nI st := by rw [o1.1 11 (by omega)]; exact s11
                  refine wp_aload_n (pc := 104) dX11_wishes_104 (by first | rfl | assumption | (repeat first | assumption | rfl | refine aG_n ?_ rfl rfl)) ?_
                  refine wp_getR (pc := 105) dX11_wishes_105 fl_11_39 (by first | rfl | assumption | exact sh_house (by omega) | exact sh_wish (by omega) | exact sh_wor (by omega) | exact sh_bar (by omega) | exact sh_term (by omega) | exact sh_sheet (by omega) | exact sh_items (by omega) | exact sh_sums (by omega)) rfl ?_
                  refine wp_iload_n (pc := 108) dX11_wishes_108 (by first | rfl | assumption | (repeat first | assumption | rfl | refine aG_n ?_ rfl rfl)) ?_
                  refine wp_cV (pc := 109) dX11_wishes_109 lk_11_134 rfl (by decide) rfl (by first | rfl | assumption | exact sh_house (by omega) | exact sh_wish (by omega) | exact sh_wor (by omega) | exact sh_bar (by omega) | exact sh_term (by omega) | exact sh_sheet (by omega) | exact sh_items (by omega) | exact sh_sums (by omega)) rfl rfl (c_X0_forget (show i < 4 by omega) hst x11 (aK_v ?_))
                  refine wp_bipush (pc := 112) (v := 6) dX11_wishes_112 (by decide) ?_
                  refine wp_ireturn (pc := 114) dX11_wishes_114 rfl (by first | rfl | decide | assumption) ?_
                  refine k _ _ (fun Q' k' => ?_)
                  have oo : ∀ c, c ≠ 11 → ¬ (56 + 4 * i ≤ c ∧ c ≤ 58 + 4 * i) → up2 μ1.1 11 1 (nI (st ||| 2 ^ i)) c = μ.1 c := fun c h1 h2 => by
                    rw [up2_ne h1]; exact o1.1 c (by omega)
                  have a4' : ∀ y, y < 6 → inR (up2 μ1.1 11 1 (nI (st ||| 2 ^ i)) 126 (12 * t + j + y)) (-99) 99 := fun y hy => by
                    rw [oo 126 (by omega) (by omega), Nat.add_assoc, ← hit (j + y) (by omega)]; exact a4 y hy
                  refine wp_iload_n (pc := 0) dX12_wishes_0 (by first | rfl | assumption | (repeat first | assumption | rfl | refine aG_n ?_ rfl rfl)) ?_
                  refine wp_cS (pc := 1) dX12_wishes_1 lk_12_143 rfl rfl rfl (c_X12_isHouse (fun _ => aK_i ?_) (fun q => absurd c1 q))
                  refine wp_if_eq (pc := 4) (tgt := 15) dX12_wishes_4 rfl (fun q => absurd q (by decide)) (fun _ => ?_)
                  refine wp_iload_n (pc := 7) dX12_wishes_7 (by first | rfl | assumption | (repeat first | assumption | rfl | refine aG_n ?_ rfl rfl)) ?_
                  refine wp_iload_n (pc := 8) dX12_wishes_8 (by first | rfl | assumption | (repeat first | assumption | rfl | refine aG_n ?_ rfl rfl)) ?_
                  refine wp_cS (pc := 9) dX12_wishes_9 lk_12_361 rfl rfl rfl (c_X12_isSheet (fun _ => aK_i ?_) (fun q => absurd ⟨c2, c3⟩ q))
                  refine wp_if_ne (pc := 12) (tgt := 17) dX12_wishes_12 rfl (fun _ => ?_) (fun q => absurd q (by decide))
                  refine wp_aload_n (pc := 17) dX12_wishes_17 (by first | rfl | assumption | (repeat first | assumption | rfl | refine aG_n ?_ rfl rfl)) ?_
                  refine wp_cV (pc := 18) dX12_wishes_18 lk_12_147 rfl (by decide) rfl (by first | rfl | assumption | exact sh_house (by omega) | exact sh_wish (by omega) | exact sh_wor (by omega) | exact sh_bar (by omega) | exact sh_term (by omega) | exact sh_sheet (by omega) | exact sh_items (by omega) | exact sh_sums (by omega)) rfl rfl (c_X12_isTalking (fun q => absurd q (by dsimp only; rw [oo 86 (by omega) (by omega)]; exact c5)) (fun _ => aK_i ?_))
                  refine wp_if_eq (pc := 21) (tgt := 27) dX12_wishes_21 rfl (fun _ => ?_) (fun q => absurd q (by decide))
                  refine wp_aload_n (pc := 27) dX12_wishes_27 (by first | rfl | assumption | (repeat first | assumption | rfl | refine aG_n ?_ rfl rfl)) ?_
                  refine wp_iload_n (pc := 28) dX12_wishes_28 (by first | rfl | assumption | (repeat first | assumption | rfl | refine aG_n ?_ rfl rfl)) ?_
                  refine wp_iload_n (pc := 29) dX12_wishes_29 (by first | rfl | assumption | (repeat first | assumption | rfl | refine aG_n ?_ rfl rfl)) ?_
                  refine wp_iload (pc := 30) dX12_wishes_30 (by first | rfl | assumption | (repeat first | assumption | rfl | refine aG_n ?_ rfl rfl)) ?_
                  refine wp_bipush (pc := 32) (v := 6) dX12_wishes_32 (by decide) ?_
                  refine wp_cV (pc := 34) dX12_wishes_34 lk_12_364 rfl (by decide) rfl (by first | rfl | assumption | exact sh_house (by omega) | exact sh_wish (by omega) | exact sh_wor (by omega) | exact sh_bar (by omega) | exact sh_term (by omega) | exact sh_sheet (by omega) | exact sh_items (by omega) | exact sh_sums (by omega)) rfl rfl (c_X12_against (by omega) c3 (by dsimp only; rw [oo 124 (by omega) (by omega)]; exact hh.2.1) (fun q => absurd (by dsimp only at q; rw [oo 124 (by omega) (by omega)] at q; exact q) a1) (fun _ q => absurd (by dsimp only; rw [oo 124 (by omega) (by omega)]; exact a2) q) (fun _ _ q => absurd (by dsimp only at q; rw [oo 125 (by omega) (by omega)] at q; exact q) a3) (fun _ _ _ => aK_i ?_))
                  refine wp_istore (pc := 37) dX12_wishes_37 (by decide) ?_
                  refine wp_iload (pc := 39) dX12_wishes_39 (by first | rfl | assumption | (repeat first | assumption | rfl | refine aG_n ?_ rfl rfl)) ?_
                  refine wp_if_ge (pc := 41) (tgt := 47) dX12_wishes_41 rfl (fun _ => ?_) (fun q => absurd (by decide) q)
                  refine wp_bipush (pc := 47) (v := 12) dX12_wishes_47 (by decide) ?_
                  refine wp_iload_n (pc := 49) dX12_wishes_49 (by first | rfl | assumption | (repeat first | assumption | rfl | refine aG_n ?_ rfl rfl)) ?_
                  refine wp_imul (pc := 50) dX12_wishes_50 ?_
                  refine wp_iload (pc := 51) dX12_wishes_51 (by first | rfl | assumption | (repeat first | assumption | rfl | refine aG_n ?_ rfl rfl)) ?_
                  refine wp_iadd (pc := 53) dX12_wishes_53 ?_
                  refine wp_istore (pc := 54) dX12_wishes_54 (by decide) ?_
                  refine wp_iconst (pc := 56) (v := 0) dX12_wishes_56 (by decide) ?_
                  refine wp_istore (pc := 57) dX12_wishes_57 (by decide) ?_
                  skip
                  rw [e12]
                  refine l_wsM1 (μ := (up2 μ1.1 11 1 (nI (st ||| 2 ^ i)), μ1.2)) (s := t) (fr := j) (i := i) (by omega) (by omega) (fun _ L g0 g1 g6 => ?_) (fun q => absurd a4' q) 6 0 (by omega) (fun y hy => absurd hy (by omega)) _ (by first | rfl | assumption | (repeat first | assumption | rfl | refine aG_n ?_ rfl rfl)) (by first | rfl | assumption | (repeat first | assumption | rfl | refine aG_n ?_ rfl rfl)) (by first | rfl | assumption | (repeat first | assumption | rfl | refine aG_n ?_ rfl rfl)) (by first | rfl | assumption | (repeat first | assumption | rfl | refine aG_n ?_ rfl rfl))
                  refine wp_iconst (pc := 98) (v := 0) dX12_wishes_98 (by decide) ?_
                  refine wp_istore (pc := 99) dX12_wishes_99 (by decide) ?_
                  skip
                  refine l_wsM2 (μ := (up2 μ1.1 11 1 (nI (st ||| 2 ^ i)), μ1.2)) (i := i) (s := t) (fr := j) (by omega) (by omega) (by omega) (fun μ2 hK r2 => k' _ ?_) 6 0 (by omega) (up2 μ1.1 11 1 (nI (st ||| 2 ^ i)), μ1.2) KC_0 rfl _ (by first | rfl | assumption | (repeat first | assumption | rfl | refine aG_n ?_ rfl rfl)) (by first | rfl | assumption | (repeat first | assumption | rfl | refine aG_n ?_ rfl rfl)) (by first | rfl | assumption | (repeat first | assumption | rfl | refine aG_n ?_ rfl rfl)) (by first | rfl | assumption | (repeat first | assumption | rfl | refine aG_n ?_ rfl rfl))
                  obtain ⟨q1, q2, q3, q4, q5⟩ := hK
                  dsimp only at q1 q2 q3 q4 q5
                  have r92 : ∀ c, 92 ≤ c → c ≤ 95 → up2 μ1.1 11 1 (nI (st ||| 2 ^ i)) c = μ.1 c := fun c h1 h2 => oo c (by omega) (by omega)
                  refine Inv_wish (i := i) (n := 6) (st := st) hI (by omega) (by omega) s11 hst (by rw [r2]; exact congrFun o1.2 74) (fun c y hc hx => ?_) ?_ ?_ (fun h hh2 hne => ⟨?_, fun q hq => ?_⟩) ?_ (q3 (by omega)) (fun q hq => ⟨⟨2 ^ q, Nat.pow_pos (by decide), ?_, (q5 q hq).1⟩, ?_, Or.inl (q5 q hq).2.2⟩) (fun z hz => ?_)
                  · rw [q1 c (by omega)]
                    by_cases e11 : c = 11
                    · subst e11
                      rw [up2_p (by omega), o1.1 11 (by omega)]
                    · rw [oo c e11 (by omega)]
                  · refine tape_c ?_ ?_ ?_ ?_ hI.2.2.2.2.1
                    · rw [q1 2 (by omega), oo 2 (by omega) (by omega)]
                    · rw [q1 86 (by omega), oo 86 (by omega) (by omega)]
                    · rw [q1 3 (by omega), oo 3 (by omega) (by omega)]
                    · rw [q1 96 (by omega), oo 96 (by omega) (by omega)]
                  · rw [q1 11 (by omega)]; exact up2_at
                  · rw [q2 h hne, r92 92 (by omega) (by omega)]
                  · obtain ⟨y1, y2, y3⟩ := q4 (12 * h + q) (by omega)
                    rw [y1, y2, y3, r92 93 (by omega) (by omega), r92 94 (by omega) (by omega), r92 95 (by omega) (by omega)]
                    exact ⟨rfl, rfl, rfl⟩
                  · rw [q1 (56 + 4 * i) (by omega), up2_ne (by omega)]; exact z1
                  · exact Nat.lt_of_lt_of_le (Nat.pow_lt_pow_right (by decide) hq) (Nat.le_refl _)
                  · rw [(q5 q hq).2.1]; exact a4' q hq
                  · rw [q1 (57 + 4 * i) (by omega), q1 (58 + 4 * i) (by omega), up2_ne (by omega), up2_ne (by omega)]
                    obtain ⟨y1, y2⟩ := w1 z hz
                    rw [show 57 + 4 * i = 56 + 4 * i + 1 by omega, show 58 + 4 * i = 56 + 4 * i + 2 by omega, y1, y2, bF_no 6 (fun q hq => (q5 q hq).2.2)]
                    refine ⟨?_, rfl⟩
                    rw [wF_sum (v := fun q => μ.1 (79 + 2 * t) (j + q)) hz 6 (by omega) (fun q hq => ⟨(q5 q hq).1, ?_⟩)]
                    rw [(q5 q hq).2.1, oo 126 (by omega) (by omega), Nat.add_assoc, ← hit (j + q) (by omega)]
                · have a4' : ¬ ∀ y, y < 6 → inR (μ.1 126 (12 * t + j + y)) (-99) 99 := fun z => a4 (fun y hy => by
                    rw [hit (j + y) (by omega), ← Nat.add_assoc]; exact z y hy)
                  refine wp_iload_n (pc := 0) dX11_wishes_0 (by first | rfl | assumption | (repeat first | assumption | rfl | refine aG_n ?_ rfl rfl)) ?_
                  refine wp_cS (pc := 1) dX11_wishes_1 lk_11_101 rfl rfl rfl (c_X11_isHouse (fun _ => aK_i ?_) (fun q => absurd c1 q))
                  refine wp_if_eq (pc := 4) (tgt := 21) dX11_wishes_4 rfl (fun q => absurd q (by decide)) (fun _ => ?_)
                  refine wp_iload_n (pc := 7) dX11_wishes_7 (by first | rfl | assumption | (repeat first | assumption | rfl | refine aG_n ?_ rfl rfl)) ?_
                  refine wp_cS (pc := 8) dX11_wishes_8 lk_11_361 rfl rfl rfl (c_X11_isSheet (fun _ => aK_i ?_) (fun q => absurd c2 q))
                  refine wp_if_eq (pc := 11) (tgt := 21) dX11_wishes_11 rfl (fun q => absurd q (by decide)) (fun _ => ?_)
                  refine wp_iload_n (pc := 14) dX11_wishes_14 (by first | rfl | assumption | (repeat first | assumption | rfl | refine aG_n ?_ rfl rfl)) ?_
                  refine wp_cS (pc := 15) dX11_wishes_15 lk_11_364 rfl rfl rfl (c_X11_isLane (fun _ => aK_i ?_) (fun q => absurd c3 q))
                  refine wp_if_ne (pc := 18) (tgt := 23) dX11_wishes_18 rfl (fun _ => ?_) (fun q => absurd q (by decide))
                  refine wp_aload_n (pc := 23) dX11_wishes_23 (by first | rfl | assumption | (repeat first | assumption | rfl | refine aG_n ?_ rfl rfl)) ?_
                  refine wp_getR (pc := 24) dX11_wishes_24 fl_11_92 (by first | rfl | assumption | exact sh_house (by omega) | exact sh_wish (by omega) | exact sh_wor (by omega) | exact sh_bar (by omega) | exact sh_term (by omega) | exact sh_sheet (by omega) | exact sh_items (by omega) | exact sh_sums (by omega)) rfl ?_
                  refine wp_cV (pc := 27) dX11_wishes_27 lk_11_104 rfl (by decide) rfl (by first | rfl | assumption | exact sh_house (by omega) | exact sh_wish (by omega) | exact sh_wor (by omega) | exact sh_bar (by omega) | exact sh_term (by omega) | exact sh_sheet (by omega) | exact sh_items (by omega) | exact sh_sums (by omega)) rfl rfl (c_X7_isOpen (fun q => absurd q c4) (fun _ => aK_i ?_))
                  refine wp_if_eq (pc := 30) (tgt := 36) dX11_wishes_30 rfl (fun _ => ?_) (fun q => absurd q (by decide))
                  refine wp_aload_n (pc := 36) dX11_wishes_36 (by first | rfl | assumption | (repeat first | assumption | rfl | refine aG_n ?_ rfl rfl)) ?_
                  refine wp_getR (pc := 37) dX11_wishes_37 fl_11_66 (by first | rfl | assumption | exact sh_house (by omega) | exact sh_wish (by omega) | exact sh_wor (by omega) | exact sh_bar (by omega) | exact sh_term (by omega) | exact sh_sheet (by omega) | exact sh_items (by omega) | exact sh_sums (by omega)) rfl ?_
                  refine wp_iload_n (pc := 40) dX11_wishes_40 (by first | rfl | assumption | (repeat first | assumption | rfl | refine aG_n ?_ rfl rfl)) ?_
                  refine wp_aald (pc := 41) dX11_wishes_41 (by first | rfl | assumption | exact sh_house (by omega) | exact sh_wish (by omega) | exact sh_wor (by omega) | exact sh_bar (by omega) | exact sh_term (by omega) | exact sh_sheet (by omega) | exact sh_items (by omega) | exact sh_sums (by omega)) (vp_in_nI (by omega) (by decide)) (by decide) (el_sheet (by omega)) ?_
                  refine wp_iload_n (pc := 42) dX11_wishes_42 (by first | rfl | assumption | (repeat first | assumption | rfl | refine aG_n ?_ rfl rfl)) ?_
                  refine wp_iload (pc := 43) dX11_wishes_43 (by first | rfl | assumption | (repeat first | assumption | rfl | refine aG_n ?_ rfl rfl)) ?_
                  refine wp_bipush (pc := 45) (v := 6) dX11_wishes_45 (by decide) ?_
                  refine wp_cV (pc := 47) dX11_wishes_47 lk_11_377 rfl (by decide) rfl (by first | rfl | assumption | exact sh_house (by omega) | exact sh_wish (by omega) | exact sh_wor (by omega) | exact sh_bar (by omega) | exact sh_term (by omega) | exact sh_sheet (by omega) | exact sh_items (by omega) | exact sh_sums (by omega)) rfl rfl (c_X6_refusal (by omega) (fun q => absurd (e1.symm.trans q) a1) (fun _ q => absurd (e1.trans a2) q) (fun _ _ q => absurd (by rw [← e2]; exact q) a3) (fun _ _ _ => aK_i ?_))
                  refine wp_istore (pc := 50) dX11_wishes_50 (by decide) ?_
                  refine wp_iload (pc := 52) dX11_wishes_52 (by first | rfl | assumption | (repeat first | assumption | rfl | refine aG_n ?_ rfl rfl)) ?_
                  refine wp_if_ge (pc := 54) (tgt := 60) dX11_wishes_54 rfl (fun _ => ?_) (fun q => absurd (by decide) q)
                  refine wp_aload_n (pc := 60) dX11_wishes_60 (by first | rfl | assumption | (repeat first | assumption | rfl | refine aG_n ?_ rfl rfl)) ?_
                  refine wp_getR (pc := 61) dX11_wishes_61 fl_11_66 (by first | rfl | assumption | exact sh_house (by omega) | exact sh_wish (by omega) | exact sh_wor (by omega) | exact sh_bar (by omega) | exact sh_term (by omega) | exact sh_sheet (by omega) | exact sh_items (by omega) | exact sh_sums (by omega)) rfl ?_
                  refine wp_iload_n (pc := 64) dX11_wishes_64 (by first | rfl | assumption | (repeat first | assumption | rfl | refine aG_n ?_ rfl rfl)) ?_
                  refine wp_aald (pc := 65) dX11_wishes_65 (by first | rfl | assumption | exact sh_house (by omega) | exact sh_wish (by omega) | exact sh_wor (by omega) | exact sh_bar (by omega) | exact sh_term (by omega) | exact sh_sheet (by omega) | exact sh_items (by omega) | exact sh_sums (by omega)) (vp_in_nI (by omega) (by decide)) (by decide) (el_sheet (by omega)) ?_
                  refine wp_iload (pc := 66) dX11_wishes_66 (by first | rfl | assumption | (repeat first | assumption | rfl | refine aG_n ?_ rfl rfl)) ?_
                  refine wp_bipush (pc := 68) (v := 6) dX11_wishes_68 (by decide) ?_
                  refine wp_bipush (pc := 70) (v := 99) dX11_wishes_70 (by decide) ?_
                  refine wp_cV (pc := 72) dX11_wishes_72 lk_11_382 rfl (by decide) rfl (by first | rfl | assumption | exact sh_house (by omega) | exact sh_wish (by omega) | exact sh_wor (by omega) | exact sh_bar (by omega) | exact sh_term (by omega) | exact sh_sheet (by omega) | exact sh_items (by omega) | exact sh_sums (by omega)) rfl rfl (c_X6_areWithin (show t < 4 by omega) (by omega) (fun q => absurd q a4) (fun _ => aK_i ?_))
                  refine wp_if_ne (pc := 75) (tgt := 81) dX11_wishes_75 rfl (fun q => absurd q (by decide)) (fun _ => ?_)
                  refine wp_bipush (pc := 78) (v := -2) dX11_wishes_78 (by decide) ?_
                  refine wp_ireturn (pc := 80) dX11_wishes_80 rfl (by first | rfl | decide | assumption) ?_
                  refine k _ _ (fun Q' k' => ?_)
                  refine wp_iload_n (pc := 0) dX12_wishes_0 (by first | rfl | assumption | (repeat first | assumption | rfl | refine aG_n ?_ rfl rfl)) ?_
                  refine wp_cS (pc := 1) dX12_wishes_1 lk_12_143 rfl rfl rfl (c_X12_isHouse (fun _ => aK_i ?_) (fun q => absurd c1 q))
                  refine wp_if_eq (pc := 4) (tgt := 15) dX12_wishes_4 rfl (fun q => absurd q (by decide)) (fun _ => ?_)
                  refine wp_iload_n (pc := 7) dX12_wishes_7 (by first | rfl | assumption | (repeat first | assumption | rfl | refine aG_n ?_ rfl rfl)) ?_
                  refine wp_iload_n (pc := 8) dX12_wishes_8 (by first | rfl | assumption | (repeat first | assumption | rfl | refine aG_n ?_ rfl rfl)) ?_
                  refine wp_cS (pc := 9) dX12_wishes_9 lk_12_361 rfl rfl rfl (c_X12_isSheet (fun _ => aK_i ?_) (fun q => absurd ⟨c2, c3⟩ q))
                  refine wp_if_ne (pc := 12) (tgt := 17) dX12_wishes_12 rfl (fun _ => ?_) (fun q => absurd q (by decide))
                  refine wp_aload_n (pc := 17) dX12_wishes_17 (by first | rfl | assumption | (repeat first | assumption | rfl | refine aG_n ?_ rfl rfl)) ?_
                  refine wp_cV (pc := 18) dX12_wishes_18 lk_12_147 rfl (by decide) rfl (by first | rfl | assumption | exact sh_house (by omega) | exact sh_wish (by omega) | exact sh_wor (by omega) | exact sh_bar (by omega) | exact sh_term (by omega) | exact sh_sheet (by omega) | exact sh_items (by omega) | exact sh_sums (by omega)) rfl rfl (c_X12_isTalking (fun q => absurd q c5) (fun _ => aK_i ?_))
                  refine wp_if_eq (pc := 21) (tgt := 27) dX12_wishes_21 rfl (fun _ => ?_) (fun q => absurd q (by decide))
                  refine wp_aload_n (pc := 27) dX12_wishes_27 (by first | rfl | assumption | (repeat first | assumption | rfl | refine aG_n ?_ rfl rfl)) ?_
                  refine wp_iload_n (pc := 28) dX12_wishes_28 (by first | rfl | assumption | (repeat first | assumption | rfl | refine aG_n ?_ rfl rfl)) ?_
                  refine wp_iload_n (pc := 29) dX12_wishes_29 (by first | rfl | assumption | (repeat first | assumption | rfl | refine aG_n ?_ rfl rfl)) ?_
                  refine wp_iload (pc := 30) dX12_wishes_30 (by first | rfl | assumption | (repeat first | assumption | rfl | refine aG_n ?_ rfl rfl)) ?_
                  refine wp_bipush (pc := 32) (v := 6) dX12_wishes_32 (by decide) ?_
                  refine wp_cV (pc := 34) dX12_wishes_34 lk_12_364 rfl (by decide) rfl (by first | rfl | assumption | exact sh_house (by omega) | exact sh_wish (by omega) | exact sh_wor (by omega) | exact sh_bar (by omega) | exact sh_term (by omega) | exact sh_sheet (by omega) | exact sh_items (by omega) | exact sh_sums (by omega)) rfl rfl (c_X12_against (by omega) c3 hh.2.1 (fun q => absurd q a1) (fun _ q => absurd a2 q) (fun _ _ q => absurd q a3) (fun _ _ _ => aK_i ?_))
                  refine wp_istore (pc := 37) dX12_wishes_37 (by decide) ?_
                  refine wp_iload (pc := 39) dX12_wishes_39 (by first | rfl | assumption | (repeat first | assumption | rfl | refine aG_n ?_ rfl rfl)) ?_
                  refine wp_if_ge (pc := 41) (tgt := 47) dX12_wishes_41 rfl (fun _ => ?_) (fun q => absurd (by decide) q)
                  refine wp_bipush (pc := 47) (v := 12) dX12_wishes_47 (by decide) ?_
                  refine wp_iload_n (pc := 49) dX12_wishes_49 (by first | rfl | assumption | (repeat first | assumption | rfl | refine aG_n ?_ rfl rfl)) ?_
                  refine wp_imul (pc := 50) dX12_wishes_50 ?_
                  refine wp_iload (pc := 51) dX12_wishes_51 (by first | rfl | assumption | (repeat first | assumption | rfl | refine aG_n ?_ rfl rfl)) ?_
                  refine wp_iadd (pc := 53) dX12_wishes_53 ?_
                  refine wp_istore (pc := 54) dX12_wishes_54 (by decide) ?_
                  refine wp_iconst (pc := 56) (v := 0) dX12_wishes_56 (by decide) ?_
                  refine wp_istore (pc := 57) dX12_wishes_57 (by decide) ?_
                  skip
                  rw [e12]
                  exact l_wsM1 (μ := μ) (s := t) (fr := j) (i := i) (by omega) (by omega) (fun q => absurd q a4') (fun _ => k' _ hI) 6 0 (by omega) (fun y hy => absurd hy (by omega)) _ (by first | rfl | assumption | (repeat first | assumption | rfl | refine aG_n ?_ rfl rfl)) (by first | rfl | assumption | (repeat first | assumption | rfl | refine aG_n ?_ rfl rfl)) (by first | rfl | assumption | (repeat first | assumption | rfl | refine aG_n ?_ rfl rfl)) (by first | rfl | assumption | (repeat first | assumption | rfl | refine aG_n ?_ rfl rfl))
            · refine wp_iload_n (pc := 0) dX11_wishes_0 (by first | rfl | assumption | (repeat first | assumption | rfl | refine aG_n ?_ rfl rfl)) ?_
              refine wp_cS (pc := 1) dX11_wishes_1 lk_11_101 rfl rfl rfl (c_X11_isHouse (fun _ => aK_i ?_) (fun q => absurd c1 q))
              refine wp_if_eq (pc := 4) (tgt := 21) dX11_wishes_4 rfl (fun q => absurd q (by decide)) (fun _ => ?_)
              refine wp_iload_n (pc := 7) dX11_wishes_7 (by first | rfl | assumption | (repeat first | assumption | rfl | refine aG_n ?_ rfl rfl)) ?_
              refine wp_cS (pc := 8) dX11_wishes_8 lk_11_361 rfl rfl rfl (c_X11_isSheet (fun _ => aK_i ?_) (fun q => absurd c2 q))
              refine wp_if_eq (pc := 11) (tgt := 21) dX11_wishes_11 rfl (fun q => absurd q (by decide)) (fun _ => ?_)
              refine wp_iload_n (pc := 14) dX11_wishes_14 (by first | rfl | assumption | (repeat first | assumption | rfl | refine aG_n ?_ rfl rfl)) ?_
              refine wp_cS (pc := 15) dX11_wishes_15 lk_11_364 rfl rfl rfl (c_X11_isLane (fun _ => aK_i ?_) (fun q => absurd c3 q))
              refine wp_if_ne (pc := 18) (tgt := 23) dX11_wishes_18 rfl (fun _ => ?_) (fun q => absurd q (by decide))
              refine wp_aload_n (pc := 23) dX11_wishes_23 (by first | rfl | assumption | (repeat first | assumption | rfl | refine aG_n ?_ rfl rfl)) ?_
              refine wp_getR (pc := 24) dX11_wishes_24 fl_11_92 (by first | rfl | assumption | exact sh_house (by omega) | exact sh_wish (by omega) | exact sh_wor (by omega) | exact sh_bar (by omega) | exact sh_term (by omega) | exact sh_sheet (by omega) | exact sh_items (by omega) | exact sh_sums (by omega)) rfl ?_
              refine wp_cV (pc := 27) dX11_wishes_27 lk_11_104 rfl (by decide) rfl (by first | rfl | assumption | exact sh_house (by omega) | exact sh_wish (by omega) | exact sh_wor (by omega) | exact sh_bar (by omega) | exact sh_term (by omega) | exact sh_sheet (by omega) | exact sh_items (by omega) | exact sh_sums (by omega)) rfl rfl (c_X7_isOpen (fun q => absurd q c4) (fun _ => aK_i ?_))
              refine wp_if_eq (pc := 30) (tgt := 36) dX11_wishes_30 rfl (fun _ => ?_) (fun q => absurd q (by decide))
              refine wp_aload_n (pc := 36) dX11_wishes_36 (by first | rfl | assumption | (repeat first | assumption | rfl | refine aG_n ?_ rfl rfl)) ?_
              refine wp_getR (pc := 37) dX11_wishes_37 fl_11_66 (by first | rfl | assumption | exact sh_house (by omega) | exact sh_wish (by omega) | exact sh_wor (by omega) | exact sh_bar (by omega) | exact sh_term (by omega) | exact sh_sheet (by omega) | exact sh_items (by omega) | exact sh_sums (by omega)) rfl ?_
              refine wp_iload_n (pc := 40) dX11_wishes_40 (by first | rfl | assumption | (repeat first | assumption | rfl | refine aG_n ?_ rfl rfl)) ?_
              refine wp_aald (pc := 41) dX11_wishes_41 (by first | rfl | assumption | exact sh_house (by omega) | exact sh_wish (by omega) | exact sh_wor (by omega) | exact sh_bar (by omega) | exact sh_term (by omega) | exact sh_sheet (by omega) | exact sh_items (by omega) | exact sh_sums (by omega)) (vp_in_nI (by omega) (by decide)) (by decide) (el_sheet (by omega)) ?_
              refine wp_iload_n (pc := 42) dX11_wishes_42 (by first | rfl | assumption | (repeat first | assumption | rfl | refine aG_n ?_ rfl rfl)) ?_
              refine wp_iload (pc := 43) dX11_wishes_43 (by first | rfl | assumption | (repeat first | assumption | rfl | refine aG_n ?_ rfl rfl)) ?_
              refine wp_bipush (pc := 45) (v := 6) dX11_wishes_45 (by decide) ?_
              refine wp_cV (pc := 47) dX11_wishes_47 lk_11_377 rfl (by decide) rfl (by first | rfl | assumption | exact sh_house (by omega) | exact sh_wish (by omega) | exact sh_wor (by omega) | exact sh_bar (by omega) | exact sh_term (by omega) | exact sh_sheet (by omega) | exact sh_items (by omega) | exact sh_sums (by omega)) rfl rfl (c_X6_refusal (by omega) (fun q => absurd (e1.symm.trans q) a1) (fun _ _ => aK_i ?_) (fun _ q => absurd (e1.symm.trans q) a2) (fun _ q => absurd (e1.symm.trans q) a2))
              refine wp_istore (pc := 50) dX11_wishes_50 (by decide) ?_
              refine wp_iload (pc := 52) dX11_wishes_52 (by first | rfl | assumption | (repeat first | assumption | rfl | refine aG_n ?_ rfl rfl)) ?_
              refine wp_if_ge (pc := 54) (tgt := 60) dX11_wishes_54 rfl (fun q => absurd q (by decide)) (fun _ => ?_)
              refine wp_iload (pc := 57) dX11_wishes_57 (by first | rfl | assumption | (repeat first | assumption | rfl | refine aG_n ?_ rfl rfl)) ?_
              refine wp_ireturn (pc := 59) dX11_wishes_59 rfl (by first | rfl | decide | assumption) ?_
              refine k _ _ (fun Q' k' => ?_)
              refine wp_iload_n (pc := 0) dX12_wishes_0 (by first | rfl | assumption | (repeat first | assumption | rfl | refine aG_n ?_ rfl rfl)) ?_
              refine wp_cS (pc := 1) dX12_wishes_1 lk_12_143 rfl rfl rfl (c_X12_isHouse (fun _ => aK_i ?_) (fun q => absurd c1 q))
              refine wp_if_eq (pc := 4) (tgt := 15) dX12_wishes_4 rfl (fun q => absurd q (by decide)) (fun _ => ?_)
              refine wp_iload_n (pc := 7) dX12_wishes_7 (by first | rfl | assumption | (repeat first | assumption | rfl | refine aG_n ?_ rfl rfl)) ?_
              refine wp_iload_n (pc := 8) dX12_wishes_8 (by first | rfl | assumption | (repeat first | assumption | rfl | refine aG_n ?_ rfl rfl)) ?_
              refine wp_cS (pc := 9) dX12_wishes_9 lk_12_361 rfl rfl rfl (c_X12_isSheet (fun _ => aK_i ?_) (fun q => absurd ⟨c2, c3⟩ q))
              refine wp_if_ne (pc := 12) (tgt := 17) dX12_wishes_12 rfl (fun _ => ?_) (fun q => absurd q (by decide))
              refine wp_aload_n (pc := 17) dX12_wishes_17 (by first | rfl | assumption | (repeat first | assumption | rfl | refine aG_n ?_ rfl rfl)) ?_
              refine wp_cV (pc := 18) dX12_wishes_18 lk_12_147 rfl (by decide) rfl (by first | rfl | assumption | exact sh_house (by omega) | exact sh_wish (by omega) | exact sh_wor (by omega) | exact sh_bar (by omega) | exact sh_term (by omega) | exact sh_sheet (by omega) | exact sh_items (by omega) | exact sh_sums (by omega)) rfl rfl (c_X12_isTalking (fun q => absurd q c5) (fun _ => aK_i ?_))
              refine wp_if_eq (pc := 21) (tgt := 27) dX12_wishes_21 rfl (fun _ => ?_) (fun q => absurd q (by decide))
              refine wp_aload_n (pc := 27) dX12_wishes_27 (by first | rfl | assumption | (repeat first | assumption | rfl | refine aG_n ?_ rfl rfl)) ?_
              refine wp_iload_n (pc := 28) dX12_wishes_28 (by first | rfl | assumption | (repeat first | assumption | rfl | refine aG_n ?_ rfl rfl)) ?_
              refine wp_iload_n (pc := 29) dX12_wishes_29 (by first | rfl | assumption | (repeat first | assumption | rfl | refine aG_n ?_ rfl rfl)) ?_
              refine wp_iload (pc := 30) dX12_wishes_30 (by first | rfl | assumption | (repeat first | assumption | rfl | refine aG_n ?_ rfl rfl)) ?_
              refine wp_bipush (pc := 32) (v := 6) dX12_wishes_32 (by decide) ?_
              refine wp_cV (pc := 34) dX12_wishes_34 lk_12_364 rfl (by decide) rfl (by first | rfl | assumption | exact sh_house (by omega) | exact sh_wish (by omega) | exact sh_wor (by omega) | exact sh_bar (by omega) | exact sh_term (by omega) | exact sh_sheet (by omega) | exact sh_items (by omega) | exact sh_sums (by omega)) rfl rfl (c_X12_against (by omega) c3 hh.2.1 (fun q => absurd q a1) (fun _ _ => aK_i ?_) (fun _ q => absurd q a2) (fun _ q => absurd q a2))
              refine wp_istore (pc := 37) dX12_wishes_37 (by decide) ?_
              refine wp_iload (pc := 39) dX12_wishes_39 (by first | rfl | assumption | (repeat first | assumption | rfl | refine aG_n ?_ rfl rfl)) ?_
              refine wp_if_ge (pc := 41) (tgt := 47) dX12_wishes_41 rfl (fun q => absurd q (by decide)) (fun _ => ?_)
              refine wp_iload (pc := 44) dX12_wishes_44 (by first | rfl | assumption | (repeat first | assumption | rfl | refine aG_n ?_ rfl rfl)) ?_
              refine wp_ireturn (pc := 46) dX12_wishes_46 rfl (by first | rfl | decide | assumption) ?_
              exact k' _ hI
      · refine wp_iload_n (pc := 0) dX11_wishes_0 (by first | rfl | assumption | (repeat first | assumption | rfl | refine aG_n ?_ rfl rfl)) ?_
        refine wp_cS (pc := 1) dX11_wishes_1 lk_11_101 rfl rfl rfl (c_X11_isHouse (fun _ => aK_i ?_) (fun q => absurd c1 q))
        refine wp_if_eq (pc := 4) (tgt := 21) dX11_wishes_4 rfl (fun q => absurd q (by decide)) (fun _ => ?_)
        refine wp_iload_n (pc := 7) dX11_wishes_7 (by first | rfl | assumption | (repeat first | assumption | rfl | refine aG_n ?_ rfl rfl)) ?_
        refine wp_cS (pc := 8) dX11_wishes_8 lk_11_361 rfl rfl rfl (c_X11_isSheet (fun _ => aK_i ?_) (fun q => absurd c2 q))
        refine wp_if_eq (pc := 11) (tgt := 21) dX11_wishes_11 rfl (fun q => absurd q (by decide)) (fun _ => ?_)
        refine wp_iload_n (pc := 14) dX11_wishes_14 (by first | rfl | assumption | (repeat first | assumption | rfl | refine aG_n ?_ rfl rfl)) ?_
        refine wp_cS (pc := 15) dX11_wishes_15 lk_11_364 rfl rfl rfl (c_X11_isLane (fun q => absurd q c3) (fun _ => aK_i ?_))
        refine wp_if_ne (pc := 18) (tgt := 23) dX11_wishes_18 rfl (fun q => absurd q (by decide)) (fun _ => ?_)
        refine wp_iconst (pc := 21) (v := -1) dX11_wishes_21 (by decide) ?_
        refine wp_ireturn (pc := 22) dX11_wishes_22 rfl (by first | rfl | decide | assumption) ?_
        refine k _ _ (fun Q' k' => ?_)
        refine wp_iload_n (pc := 0) dX12_wishes_0 (by first | rfl | assumption | (repeat first | assumption | rfl | refine aG_n ?_ rfl rfl)) ?_
        refine wp_cS (pc := 1) dX12_wishes_1 lk_12_143 rfl rfl rfl (c_X12_isHouse (fun _ => aK_i ?_) (fun q => absurd c1 q))
        refine wp_if_eq (pc := 4) (tgt := 15) dX12_wishes_4 rfl (fun q => absurd q (by decide)) (fun _ => ?_)
        refine wp_iload_n (pc := 7) dX12_wishes_7 (by first | rfl | assumption | (repeat first | assumption | rfl | refine aG_n ?_ rfl rfl)) ?_
        refine wp_iload_n (pc := 8) dX12_wishes_8 (by first | rfl | assumption | (repeat first | assumption | rfl | refine aG_n ?_ rfl rfl)) ?_
        refine wp_cS (pc := 9) dX12_wishes_9 lk_12_361 rfl rfl rfl (c_X12_isSheet (fun q => absurd q (fun z => c3 z.2)) (fun _ => aK_i ?_))
        refine wp_if_ne (pc := 12) (tgt := 17) dX12_wishes_12 rfl (fun q => absurd q (by decide)) (fun _ => ?_)
        refine wp_iconst (pc := 15) (v := -1) dX12_wishes_15 (by decide) ?_
        refine wp_ireturn (pc := 16) dX12_wishes_16 rfl (by first | rfl | decide | assumption) ?_
        exact k' _ hI
    · refine wp_iload_n (pc := 0) dX11_wishes_0 (by first | rfl | assumption | (repeat first | assumption | rfl | refine aG_n ?_ rfl rfl)) ?_
      refine wp_cS (pc := 1) dX11_wishes_1 lk_11_101 rfl rfl rfl (c_X11_isHouse (fun _ => aK_i ?_) (fun q => absurd c1 q))
      refine wp_if_eq (pc := 4) (tgt := 21) dX11_wishes_4 rfl (fun q => absurd q (by decide)) (fun _ => ?_)
      refine wp_iload_n (pc := 7) dX11_wishes_7 (by first | rfl | assumption | (repeat first | assumption | rfl | refine aG_n ?_ rfl rfl)) ?_
      refine wp_cS (pc := 8) dX11_wishes_8 lk_11_361 rfl rfl rfl (c_X11_isSheet (fun q => absurd q c2) (fun _ => aK_i ?_))
      refine wp_if_eq (pc := 11) (tgt := 21) dX11_wishes_11 rfl (fun _ => ?_) (fun q => absurd q (by decide))
      refine wp_iconst (pc := 21) (v := -1) dX11_wishes_21 (by decide) ?_
      refine wp_ireturn (pc := 22) dX11_wishes_22 rfl (by first | rfl | decide | assumption) ?_
      refine k _ _ (fun Q' k' => ?_)
      refine wp_iload_n (pc := 0) dX12_wishes_0 (by first | rfl | assumption | (repeat first | assumption | rfl | refine aG_n ?_ rfl rfl)) ?_
      refine wp_cS (pc := 1) dX12_wishes_1 lk_12_143 rfl rfl rfl (c_X12_isHouse (fun _ => aK_i ?_) (fun q => absurd c1 q))
      refine wp_if_eq (pc := 4) (tgt := 15) dX12_wishes_4 rfl (fun q => absurd q (by decide)) (fun _ => ?_)
      refine wp_iload_n (pc := 7) dX12_wishes_7 (by first | rfl | assumption | (repeat first | assumption | rfl | refine aG_n ?_ rfl rfl)) ?_
      refine wp_iload_n (pc := 8) dX12_wishes_8 (by first | rfl | assumption | (repeat first | assumption | rfl | refine aG_n ?_ rfl rfl)) ?_
      refine wp_cS (pc := 9) dX12_wishes_9 lk_12_361 rfl rfl rfl (c_X12_isSheet (fun q => absurd q (fun z => c2 z.1)) (fun _ => aK_i ?_))
      refine wp_if_ne (pc := 12) (tgt := 17) dX12_wishes_12 rfl (fun q => absurd q (by decide)) (fun _ => ?_)
      refine wp_iconst (pc := 15) (v := -1) dX12_wishes_15 (by decide) ?_
      refine wp_ireturn (pc := 16) dX12_wishes_16 rfl (by first | rfl | decide | assumption) ?_
      exact k' _ hI
  · refine wp_iload_n (pc := 0) dX11_wishes_0 (by first | rfl | assumption | (repeat first | assumption | rfl | refine aG_n ?_ rfl rfl)) ?_
    refine wp_cS (pc := 1) dX11_wishes_1 lk_11_101 rfl rfl rfl (c_X11_isHouse (fun q => absurd q c1) (fun _ => aK_i ?_))
    refine wp_if_eq (pc := 4) (tgt := 21) dX11_wishes_4 rfl (fun _ => ?_) (fun q => absurd q (by decide))
    refine wp_iconst (pc := 21) (v := -1) dX11_wishes_21 (by decide) ?_
    refine wp_ireturn (pc := 22) dX11_wishes_22 rfl (by first | rfl | decide | assumption) ?_
    refine k _ _ (fun Q' k' => ?_)
    refine wp_iload_n (pc := 0) dX12_wishes_0 (by first | rfl | assumption | (repeat first | assumption | rfl | refine aG_n ?_ rfl rfl)) ?_
    refine wp_cS (pc := 1) dX12_wishes_1 lk_12_143 rfl rfl rfl (c_X12_isHouse (fun q => absurd q c1) (fun _ => aK_i ?_))
    refine wp_if_eq (pc := 4) (tgt := 15) dX12_wishes_4 rfl (fun _ => ?_) (fun q => absurd q (by decide))
    refine wp_iconst (pc := 15) (v := -1) dX12_wishes_15 (by decide) ?_
    refine wp_ireturn (pc := 16) dX12_wishes_16 rfl (by first | rfl | decide | assumption) ?_
    exact k' _ hI

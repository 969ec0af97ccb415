/-! trailing zeros and counts of bits -/
def nz (s : Nat) : Nat := if s % 2 = 1 then 0 else if s / 2 % 2 = 1 then 1 else if s / 4 % 2 = 1 then 2 else if s / 8 % 2 = 1 then 3 else if s / 16 % 2 = 1 then 4 else 5
theorem nz_b : ∀ s, s < 64 → 0 < s → ((nI s ^^^ (-1)) &&& (nI s - 1) = nI (2 ^ nz s - 1)) ∧ nz s < 6 := by decide +kernel
theorem nz_bits : ∀ s, s < 64 → 0 < s → s.testBit (nz s) = true ∧ ∀ j, j < 6 → (s &&& (s - 1)).testBit j = (s.testBit j && decide (j ≠ nz s)) := by decide +kernel
theorem nz_lt {s : Nat} : nz s < 6 := by
  unfold nz
  repeat (split; · omega)
  omega
theorem and_pred : ∀ s, s < 64 → 0 < s → nI s &&& (nI s - 1) = nI (s &&& (s - 1)) ∧ s &&& (s - 1) < s := by decide +kernel
def pcn (x : Nat) : Nat := x % 2 + x / 2 % 2 + x / 4 % 2 + x / 8 % 2 + x / 16 % 2 + x / 32 % 2
section BITC
variable {X : aX} {μ : Mm} {Q : Option Value → Mm → Prop}
theorem c_ntz {s : Nat} (h0 : 0 < s) (hs : s < 64) (k : Q (some (.int (nI (nz s)))) μ) : WP X mJ6_numberOfTrailingZeros_0f7a4 0 (lv_args 0 [.int (nI s)]) [] μ Q := by
  obtain ⟨e1, e2⟩ := nz_b s hs h0
  generalize nz s = z at *
  refine wp_iload_n (pc := 0) dJ6_numberOfTrailingZeros_0f7a4_0 (by first | rfl | assumption | (repeat first | assumption | rfl | refine aG_n ?_ rfl rfl)) ?_
  refine wp_iconst (pc := 1) (v := -1) dJ6_numberOfTrailingZeros_0f7a4_1 (by decide) ?_
  refine wp_ixor (pc := 2) dJ6_numberOfTrailingZeros_0f7a4_2 ?_
  refine wp_iload_n (pc := 3) dJ6_numberOfTrailingZeros_0f7a4_3 (by first | rfl | assumption | (repeat first | assumption | rfl | refine aG_n ?_ rfl rfl)) ?_
  refine wp_iconst (pc := 4) (v := 1) dJ6_numberOfTrailingZeros_0f7a4_4 (by decide) ?_
  refine wp_isub (pc := 5) dJ6_numberOfTrailingZeros_0f7a4_5 ?_
  refine wp_iand (pc := 6) dJ6_numberOfTrailingZeros_0f7a4_6 ?_
  refine wp_istore_n (pc := 7) dJ6_numberOfTrailingZeros_0f7a4_7 (by decide) ?_
  skip
  rw [e1]
  obtain rfl | rfl | rfl | rfl | rfl | rfl : z = 0 ∨ z = 1 ∨ z = 2 ∨ z = 3 ∨ z = 4 ∨ z = 5 := by omega
  · refine wp_iload_n (pc := 8) dJ6_numberOfTrailingZeros_0f7a4_8 (by first | rfl | assumption | (repeat first | assumption | rfl | refine aG_n ?_ rfl rfl)) ?_
    refine wp_if_gt (pc := 9) (tgt := 17) dJ6_numberOfTrailingZeros_0f7a4_9 rfl (fun q => absurd q (by decide)) (fun _ => ?_)
    refine wp_iload_n (pc := 12) dJ6_numberOfTrailingZeros_0f7a4_12 (by first | rfl | assumption | (repeat first | assumption | rfl | refine aG_n ?_ rfl rfl)) ?_
    refine wp_bipush (pc := 13) (v := 32) dJ6_numberOfTrailingZeros_0f7a4_13 (by decide) ?_
    refine wp_iand (pc := 15) dJ6_numberOfTrailingZeros_0f7a4_15 ?_
    refine wp_ireturn (pc := 16) dJ6_numberOfTrailingZeros_0f7a4_16 rfl (by first | rfl | decide | assumption) ?_
    exact qEq (by decide) k
  · refine wp_iload_n (pc := 8) dJ6_numberOfTrailingZeros_0f7a4_8 (by first | rfl | assumption | (repeat first | assumption | rfl | refine aG_n ?_ rfl rfl)) ?_
    refine wp_if_gt (pc := 9) (tgt := 17) dJ6_numberOfTrailingZeros_0f7a4_9 rfl (fun _ => ?_) (fun q => absurd q (by decide))
    refine wp_iconst (pc := 17) (v := 1) dJ6_numberOfTrailingZeros_0f7a4_17 (by decide) ?_
    refine wp_istore_n (pc := 18) dJ6_numberOfTrailingZeros_0f7a4_18 (by decide) ?_
    refine wp_iload_n (pc := 19) dJ6_numberOfTrailingZeros_0f7a4_19 (by first | rfl | assumption | (repeat first | assumption | rfl | refine aG_n ?_ rfl rfl)) ?_
    refine wp_ldcw (pc := 20) dJ6_numberOfTrailingZeros_0f7a4_20 cs_14_264 ?_
    refine wp_icmp_le (pc := 23) (tgt := 34) dJ6_numberOfTrailingZeros_0f7a4_23 rfl (fun _ => ?_) (fun q => absurd (by decide) q)
    refine wp_iload_n (pc := 34) dJ6_numberOfTrailingZeros_0f7a4_34 (by first | rfl | assumption | (repeat first | assumption | rfl | refine aG_n ?_ rfl rfl)) ?_
    refine wp_sipush (pc := 35) (v := 256) dJ6_numberOfTrailingZeros_0f7a4_35 (by decide) ?_
    refine wp_icmp_le (pc := 38) (tgt := 49) dJ6_numberOfTrailingZeros_0f7a4_38 rfl (fun _ => ?_) (fun q => absurd q (by decide))
    refine wp_iload_n (pc := 49) dJ6_numberOfTrailingZeros_0f7a4_49 (by first | rfl | assumption | (repeat first | assumption | rfl | refine aG_n ?_ rfl rfl)) ?_
    refine wp_bipush (pc := 50) (v := 16) dJ6_numberOfTrailingZeros_0f7a4_50 (by decide) ?_
    refine wp_icmp_le (pc := 52) (tgt := 62) dJ6_numberOfTrailingZeros_0f7a4_52 rfl (fun _ => ?_) (fun q => absurd q (by decide))
    refine wp_iload_n (pc := 62) dJ6_numberOfTrailingZeros_0f7a4_62 (by first | rfl | assumption | (repeat first | assumption | rfl | refine aG_n ?_ rfl rfl)) ?_
    refine wp_iconst (pc := 63) (v := 4) dJ6_numberOfTrailingZeros_0f7a4_63 (by decide) ?_
    refine wp_icmp_le (pc := 64) (tgt := 74) dJ6_numberOfTrailingZeros_0f7a4_64 rfl (fun _ => ?_) (fun q => absurd q (by decide))
    refine wp_iload_n (pc := 74) dJ6_numberOfTrailingZeros_0f7a4_74 (by first | rfl | assumption | (repeat first | assumption | rfl | refine aG_n ?_ rfl rfl)) ?_
    refine wp_iload_n (pc := 75) dJ6_numberOfTrailingZeros_0f7a4_75 (by first | rfl | assumption | (repeat first | assumption | rfl | refine aG_n ?_ rfl rfl)) ?_
    refine wp_iconst (pc := 76) (v := 1) dJ6_numberOfTrailingZeros_0f7a4_76 (by decide) ?_
    refine wp_iushr (pc := 77) dJ6_numberOfTrailingZeros_0f7a4_77 ?_
    refine wp_iadd (pc := 78) dJ6_numberOfTrailingZeros_0f7a4_78 ?_
    refine wp_ireturn (pc := 79) dJ6_numberOfTrailingZeros_0f7a4_79 rfl (by first | rfl | decide | assumption) ?_
    exact qEq (by decide) k
  · refine wp_iload_n (pc := 8) dJ6_numberOfTrailingZeros_0f7a4_8 (by first | rfl | assumption | (repeat first | assumption | rfl | refine aG_n ?_ rfl rfl)) ?_
    refine wp_if_gt (pc := 9) (tgt := 17) dJ6_numberOfTrailingZeros_0f7a4_9 rfl (fun _ => ?_) (fun q => absurd q (by decide))
    refine wp_iconst (pc := 17) (v := 1) dJ6_numberOfTrailingZeros_0f7a4_17 (by decide) ?_
    refine wp_istore_n (pc := 18) dJ6_numberOfTrailingZeros_0f7a4_18 (by decide) ?_
    refine wp_iload_n (pc := 19) dJ6_numberOfTrailingZeros_0f7a4_19 (by first | rfl | assumption | (repeat first | assumption | rfl | refine aG_n ?_ rfl rfl)) ?_
    refine wp_ldcw (pc := 20) dJ6_numberOfTrailingZeros_0f7a4_20 cs_14_264 ?_
    refine wp_icmp_le (pc := 23) (tgt := 34) dJ6_numberOfTrailingZeros_0f7a4_23 rfl (fun _ => ?_) (fun q => absurd (by decide) q)
    refine wp_iload_n (pc := 34) dJ6_numberOfTrailingZeros_0f7a4_34 (by first | rfl | assumption | (repeat first | assumption | rfl | refine aG_n ?_ rfl rfl)) ?_
    refine wp_sipush (pc := 35) (v := 256) dJ6_numberOfTrailingZeros_0f7a4_35 (by decide) ?_
    refine wp_icmp_le (pc := 38) (tgt := 49) dJ6_numberOfTrailingZeros_0f7a4_38 rfl (fun _ => ?_) (fun q => absurd q (by decide))
    refine wp_iload_n (pc := 49) dJ6_numberOfTrailingZeros_0f7a4_49 (by first | rfl | assumption | (repeat first | assumption | rfl | refine aG_n ?_ rfl rfl)) ?_
    refine wp_bipush (pc := 50) (v := 16) dJ6_numberOfTrailingZeros_0f7a4_50 (by decide) ?_
    refine wp_icmp_le (pc := 52) (tgt := 62) dJ6_numberOfTrailingZeros_0f7a4_52 rfl (fun _ => ?_) (fun q => absurd q (by decide))
    refine wp_iload_n (pc := 62) dJ6_numberOfTrailingZeros_0f7a4_62 (by first | rfl | assumption | (repeat first | assumption | rfl | refine aG_n ?_ rfl rfl)) ?_
    refine wp_iconst (pc := 63) (v := 4) dJ6_numberOfTrailingZeros_0f7a4_63 (by decide) ?_
    refine wp_icmp_le (pc := 64) (tgt := 74) dJ6_numberOfTrailingZeros_0f7a4_64 rfl (fun _ => ?_) (fun q => absurd q (by decide))
    refine wp_iload_n (pc := 74) dJ6_numberOfTrailingZeros_0f7a4_74 (by first | rfl | assumption | (repeat first | assumption | rfl | refine aG_n ?_ rfl rfl)) ?_
    refine wp_iload_n (pc := 75) dJ6_numberOfTrailingZeros_0f7a4_75 (by first | rfl | assumption | (repeat first | assumption | rfl | refine aG_n ?_ rfl rfl)) ?_
    refine wp_iconst (pc := 76) (v := 1) dJ6_numberOfTrailingZeros_0f7a4_76 (by decide) ?_
    refine wp_iushr (pc := 77) dJ6_numberOfTrailingZeros_0f7a4_77 ?_
    refine wp_iadd (pc := 78) dJ6_numberOfTrailingZeros_0f7a4_78 ?_
    refine wp_ireturn (pc := 79) dJ6_numberOfTrailingZeros_0f7a4_79 rfl (by first | rfl | decide | assumption) ?_
    exact qEq (by decide) k
  · refine wp_iload_n (pc := 8) dJ6_numberOfTrailingZeros_0f7a4_8 (by first | rfl | assumption | (repeat first | assumption | rfl | refine aG_n ?_ rfl rfl)) ?_
    refine wp_if_gt (pc := 9) (tgt := 17) dJ6_numberOfTrailingZeros_0f7a4_9 rfl (fun _ => ?_) (fun q => absurd q (by decide))
    refine wp_iconst (pc := 17) (v := 1) dJ6_numberOfTrailingZeros_0f7a4_17 (by decide) ?_
    refine wp_istore_n (pc := 18) dJ6_numberOfTrailingZeros_0f7a4_18 (by decide) ?_
    refine wp_iload_n (pc := 19) dJ6_numberOfTrailingZeros_0f7a4_19 (by first | rfl | assumption | (repeat first | assumption | rfl | refine aG_n ?_ rfl rfl)) ?_
    refine wp_ldcw (pc := 20) dJ6_numberOfTrailingZeros_0f7a4_20 cs_14_264 ?_
    refine wp_icmp_le (pc := 23) (tgt := 34) dJ6_numberOfTrailingZeros_0f7a4_23 rfl (fun _ => ?_) (fun q => absurd (by decide) q)
    refine wp_iload_n (pc := 34) dJ6_numberOfTrailingZeros_0f7a4_34 (by first | rfl | assumption | (repeat first | assumption | rfl | refine aG_n ?_ rfl rfl)) ?_
    refine wp_sipush (pc := 35) (v := 256) dJ6_numberOfTrailingZeros_0f7a4_35 (by decide) ?_
    refine wp_icmp_le (pc := 38) (tgt := 49) dJ6_numberOfTrailingZeros_0f7a4_38 rfl (fun _ => ?_) (fun q => absurd q (by decide))
    refine wp_iload_n (pc := 49) dJ6_numberOfTrailingZeros_0f7a4_49 (by first | rfl | assumption | (repeat first | assumption | rfl | refine aG_n ?_ rfl rfl)) ?_
    refine wp_bipush (pc := 50) (v := 16) dJ6_numberOfTrailingZeros_0f7a4_50 (by decide) ?_
    refine wp_icmp_le (pc := 52) (tgt := 62) dJ6_numberOfTrailingZeros_0f7a4_52 rfl (fun _ => ?_) (fun q => absurd q (by decide))
    refine wp_iload_n (pc := 62) dJ6_numberOfTrailingZeros_0f7a4_62 (by first | rfl | assumption | (repeat first | assumption | rfl | refine aG_n ?_ rfl rfl)) ?_
    refine wp_iconst (pc := 63) (v := 4) dJ6_numberOfTrailingZeros_0f7a4_63 (by decide) ?_
    refine wp_icmp_le (pc := 64) (tgt := 74) dJ6_numberOfTrailingZeros_0f7a4_64 rfl (fun q => absurd q (by decide)) (fun _ => ?_)
    refine wp_iinc (pc := 67) dJ6_numberOfTrailingZeros_0f7a4_67 (by decide) (by first | rfl | assumption | (repeat first | assumption | rfl | refine aG_n ?_ rfl rfl)) rfl ?_
    refine wp_iload_n (pc := 70) dJ6_numberOfTrailingZeros_0f7a4_70 (by first | rfl | assumption | (repeat first | assumption | rfl | refine aG_n ?_ rfl rfl)) ?_
    refine wp_iconst (pc := 71) (v := 2) dJ6_numberOfTrailingZeros_0f7a4_71 (by decide) ?_
    refine wp_iushr (pc := 72) dJ6_numberOfTrailingZeros_0f7a4_72 ?_
    refine wp_istore_n (pc := 73) dJ6_numberOfTrailingZeros_0f7a4_73 (by decide) ?_
    refine wp_iload_n (pc := 74) dJ6_numberOfTrailingZeros_0f7a4_74 (by first | rfl | assumption | (repeat first | assumption | rfl | refine aG_n ?_ rfl rfl)) ?_
    refine wp_iload_n (pc := 75) dJ6_numberOfTrailingZeros_0f7a4_75 (by first | rfl | assumption | (repeat first | assumption | rfl | refine aG_n ?_ rfl rfl)) ?_
    refine wp_iconst (pc := 76) (v := 1) dJ6_numberOfTrailingZeros_0f7a4_76 (by decide) ?_
    refine wp_iushr (pc := 77) dJ6_numberOfTrailingZeros_0f7a4_77 ?_
    refine wp_iadd (pc := 78) dJ6_numberOfTrailingZeros_0f7a4_78 ?_
    refine wp_ireturn (pc := 79) dJ6_numberOfTrailingZeros_0f7a4_79 rfl (by first | rfl | decide | assumption) ?_
    exact qEq (by decide) k
  · refine wp_iload_n (pc := 8) dJ6_numberOfTrailingZeros_0f7a4_8 (by first | rfl | assumption | (repeat first | assumption | rfl | refine aG_n ?_ rfl rfl)) ?_
    refine wp_if_gt (pc := 9) (tgt := 17) dJ6_numberOfTrailingZeros_0f7a4_9 rfl (fun _ => ?_) (fun q => absurd q (by decide))
    refine wp_iconst (pc := 17) (v := 1) dJ6_numberOfTrailingZeros_0f7a4_17 (by decide) ?_
    refine wp_istore_n (pc := 18) dJ6_numberOfTrailingZeros_0f7a4_18 (by decide) ?_
    refine wp_iload_n (pc := 19) dJ6_numberOfTrailingZeros_0f7a4_19 (by first | rfl | assumption | (repeat first | assumption | rfl | refine aG_n ?_ rfl rfl)) ?_
    refine wp_ldcw (pc := 20) dJ6_numberOfTrailingZeros_0f7a4_20 cs_14_264 ?_
    refine wp_icmp_le (pc := 23) (tgt := 34) dJ6_numberOfTrailingZeros_0f7a4_23 rfl (fun _ => ?_) (fun q => absurd (by decide) q)
    refine wp_iload_n (pc := 34) dJ6_numberOfTrailingZeros_0f7a4_34 (by first | rfl | assumption | (repeat first | assumption | rfl | refine aG_n ?_ rfl rfl)) ?_
    refine wp_sipush (pc := 35) (v := 256) dJ6_numberOfTrailingZeros_0f7a4_35 (by decide) ?_
    refine wp_icmp_le (pc := 38) (tgt := 49) dJ6_numberOfTrailingZeros_0f7a4_38 rfl (fun _ => ?_) (fun q => absurd q (by decide))
    refine wp_iload_n (pc := 49) dJ6_numberOfTrailingZeros_0f7a4_49 (by first | rfl | assumption | (repeat first | assumption | rfl | refine aG_n ?_ rfl rfl)) ?_
    refine wp_bipush (pc := 50) (v := 16) dJ6_numberOfTrailingZeros_0f7a4_50 (by decide) ?_
    refine wp_icmp_le (pc := 52) (tgt := 62) dJ6_numberOfTrailingZeros_0f7a4_52 rfl (fun _ => ?_) (fun q => absurd q (by decide))
    refine wp_iload_n (pc := 62) dJ6_numberOfTrailingZeros_0f7a4_62 (by first | rfl | assumption | (repeat first | assumption | rfl | refine aG_n ?_ rfl rfl)) ?_
    refine wp_iconst (pc := 63) (v := 4) dJ6_numberOfTrailingZeros_0f7a4_63 (by decide) ?_
    refine wp_icmp_le (pc := 64) (tgt := 74) dJ6_numberOfTrailingZeros_0f7a4_64 rfl (fun q => absurd q (by decide)) (fun _ => ?_)
    refine wp_iinc (pc := 67) dJ6_numberOfTrailingZeros_0f7a4_67 (by decide) (by first | rfl | assumption | (repeat first | assumption | rfl | refine aG_n ?_ rfl rfl)) rfl ?_
    refine wp_iload_n (pc := 70) dJ6_numberOfTrailingZeros_0f7a4_70 (by first | rfl | assumption | (repeat first | assumption | rfl | refine aG_n ?_ rfl rfl)) ?_
    refine wp_iconst (pc := 71) (v := 2) dJ6_numberOfTrailingZeros_0f7a4_71 (by decide) ?_
    refine wp_iushr (pc := 72) dJ6_numberOfTrailingZeros_0f7a4_72 ?_
    refine wp_istore_n (pc := 73) dJ6_numberOfTrailingZeros_0f7a4_73 (by decide) ?_
    refine wp_iload_n (pc := 74) dJ6_numberOfTrailingZeros_0f7a4_74 (by first | rfl | assumption | (repeat first | assumption | rfl | refine aG_n ?_ rfl rfl)) ?_
    refine wp_iload_n (pc := 75) dJ6_numberOfTrailingZeros_0f7a4_75 (by first | rfl | assumption | (repeat first | assumption | rfl | refine aG_n ?_ rfl rfl)) ?_
    refine wp_iconst (pc := 76) (v := 1) dJ6_numberOfTrailingZeros_0f7a4_76 (by decide) ?_
    refine wp_iushr (pc := 77) dJ6_numberOfTrailingZeros_0f7a4_77 ?_
    refine wp_iadd (pc := 78) dJ6_numberOfTrailingZeros_0f7a4_78 ?_
    refine wp_ireturn (pc := 79) dJ6_numberOfTrailingZeros_0f7a4_79 rfl (by first | rfl | decide | assumption) ?_
    exact qEq (by decide) k
  · refine wp_iload_n (pc := 8) dJ6_numberOfTrailingZeros_0f7a4_8 (by first | rfl | assumption | (repeat first | assumption | rfl | refine aG_n ?_ rfl rfl)) ?_
    refine wp_if_gt (pc := 9) (tgt := 17) dJ6_numberOfTrailingZeros_0f7a4_9 rfl (fun _ => ?_) (fun q => absurd q (by decide))
    refine wp_iconst (pc := 17) (v := 1) dJ6_numberOfTrailingZeros_0f7a4_17 (by decide) ?_
    refine wp_istore_n (pc := 18) dJ6_numberOfTrailingZeros_0f7a4_18 (by decide) ?_
    refine wp_iload_n (pc := 19) dJ6_numberOfTrailingZeros_0f7a4_19 (by first | rfl | assumption | (repeat first | assumption | rfl | refine aG_n ?_ rfl rfl)) ?_
    refine wp_ldcw (pc := 20) dJ6_numberOfTrailingZeros_0f7a4_20 cs_14_264 ?_
    refine wp_icmp_le (pc := 23) (tgt := 34) dJ6_numberOfTrailingZeros_0f7a4_23 rfl (fun _ => ?_) (fun q => absurd (by decide) q)
    refine wp_iload_n (pc := 34) dJ6_numberOfTrailingZeros_0f7a4_34 (by first | rfl | assumption | (repeat first | assumption | rfl | refine aG_n ?_ rfl rfl)) ?_
    refine wp_sipush (pc := 35) (v := 256) dJ6_numberOfTrailingZeros_0f7a4_35 (by decide) ?_
    refine wp_icmp_le (pc := 38) (tgt := 49) dJ6_numberOfTrailingZeros_0f7a4_38 rfl (fun _ => ?_) (fun q => absurd q (by decide))
    refine wp_iload_n (pc := 49) dJ6_numberOfTrailingZeros_0f7a4_49 (by first | rfl | assumption | (repeat first | assumption | rfl | refine aG_n ?_ rfl rfl)) ?_
    refine wp_bipush (pc := 50) (v := 16) dJ6_numberOfTrailingZeros_0f7a4_50 (by decide) ?_
    refine wp_icmp_le (pc := 52) (tgt := 62) dJ6_numberOfTrailingZeros_0f7a4_52 rfl (fun q => absurd q (by decide)) (fun _ => ?_)
    refine wp_iinc (pc := 55) dJ6_numberOfTrailingZeros_0f7a4_55 (by decide) (by first | rfl | assumption | (repeat first | assumption | rfl | refine aG_n ?_ rfl rfl)) rfl ?_
    refine wp_iload_n (pc := 58) dJ6_numberOfTrailingZeros_0f7a4_58 (by first | rfl | assumption | (repeat first | assumption | rfl | refine aG_n ?_ rfl rfl)) ?_
    refine wp_iconst (pc := 59) (v := 4) dJ6_numberOfTrailingZeros_0f7a4_59 (by decide) ?_
    refine wp_iushr (pc := 60) dJ6_numberOfTrailingZeros_0f7a4_60 ?_
    refine wp_istore_n (pc := 61) dJ6_numberOfTrailingZeros_0f7a4_61 (by decide) ?_
    refine wp_iload_n (pc := 62) dJ6_numberOfTrailingZeros_0f7a4_62 (by first | rfl | assumption | (repeat first | assumption | rfl | refine aG_n ?_ rfl rfl)) ?_
    refine wp_iconst (pc := 63) (v := 4) dJ6_numberOfTrailingZeros_0f7a4_63 (by decide) ?_
    refine wp_icmp_le (pc := 64) (tgt := 74) dJ6_numberOfTrailingZeros_0f7a4_64 rfl (fun _ => ?_) (fun q => absurd (by decide) q)
    refine wp_iload_n (pc := 74) dJ6_numberOfTrailingZeros_0f7a4_74 (by first | rfl | assumption | (repeat first | assumption | rfl | refine aG_n ?_ rfl rfl)) ?_
    refine wp_iload_n (pc := 75) dJ6_numberOfTrailingZeros_0f7a4_75 (by first | rfl | assumption | (repeat first | assumption | rfl | refine aG_n ?_ rfl rfl)) ?_
    refine wp_iconst (pc := 76) (v := 1) dJ6_numberOfTrailingZeros_0f7a4_76 (by decide) ?_
    refine wp_iushr (pc := 77) dJ6_numberOfTrailingZeros_0f7a4_77 ?_
    refine wp_iadd (pc := 78) dJ6_numberOfTrailingZeros_0f7a4_78 ?_
    refine wp_ireturn (pc := 79) dJ6_numberOfTrailingZeros_0f7a4_79 rfl (by first | rfl | decide | assumption) ?_
    exact qEq (by decide) k
theorem c_bitc {x : Nat} (hx : x < 64) (k : Q (some (.int (nI (pcn x)))) μ) : WP X mJ6_bitCount_0f7a4 0 (lv_args 0 [.int (nI x)]) [] μ Q := by
  refine wp_iload_n (pc := 0) dJ6_bitCount_0f7a4_0 (by first | rfl | assumption | (repeat first | assumption | rfl | refine aG_n ?_ rfl rfl)) ?_
  refine wp_iload_n (pc := 1) dJ6_bitCount_0f7a4_1 (by first | rfl | assumption | (repeat first | assumption | rfl | refine aG_n ?_ rfl rfl)) ?_
  refine wp_iconst (pc := 2) (v := 1) dJ6_bitCount_0f7a4_2 (by decide) ?_
  refine wp_iushr (pc := 3) dJ6_bitCount_0f7a4_3 ?_
  refine wp_ldcw (pc := 4) dJ6_bitCount_0f7a4_4 cs_14_265 ?_
  refine wp_iand (pc := 7) dJ6_bitCount_0f7a4_7 ?_
  refine wp_isub (pc := 8) dJ6_bitCount_0f7a4_8 ?_
  refine wp_istore_n (pc := 9) dJ6_bitCount_0f7a4_9 (by decide) ?_
  refine wp_iload_n (pc := 10) dJ6_bitCount_0f7a4_10 (by first | rfl | assumption | (repeat first | assumption | rfl | refine aG_n ?_ rfl rfl)) ?_
  refine wp_ldcw (pc := 11) dJ6_bitCount_0f7a4_11 cs_14_266 ?_
  refine wp_iand (pc := 14) dJ6_bitCount_0f7a4_14 ?_
  refine wp_iload_n (pc := 15) dJ6_bitCount_0f7a4_15 (by first | rfl | assumption | (repeat first | assumption | rfl | refine aG_n ?_ rfl rfl)) ?_
  refine wp_iconst (pc := 16) (v := 2) dJ6_bitCount_0f7a4_16 (by decide) ?_
  refine wp_iushr (pc := 17) dJ6_bitCount_0f7a4_17 ?_
  refine wp_ldcw (pc := 18) dJ6_bitCount_0f7a4_18 cs_14_266 ?_
  refine wp_iand (pc := 21) dJ6_bitCount_0f7a4_21 ?_
  refine wp_iadd (pc := 22) dJ6_bitCount_0f7a4_22 ?_
  refine wp_istore_n (pc := 23) dJ6_bitCount_0f7a4_23 (by decide) ?_
  refine wp_iload_n (pc := 24) dJ6_bitCount_0f7a4_24 (by first | rfl | assumption | (repeat first | assumption | rfl | refine aG_n ?_ rfl rfl)) ?_
  refine wp_iload_n (pc := 25) dJ6_bitCount_0f7a4_25 (by first | rfl | assumption | (repeat first | assumption | rfl | refine aG_n ?_ rfl rfl)) ?_
  refine wp_iconst (pc := 26) (v := 4) dJ6_bitCount_0f7a4_26 (by decide) ?_
  refine wp_iushr (pc := 27) dJ6_bitCount_0f7a4_27 ?_
  refine wp_iadd (pc := 28) dJ6_bitCount_0f7a4_28 ?_
  refine wp_ldcw (pc := 29) dJ6_bitCount_0f7a4_29 cs_14_267 ?_
  refine wp_iand (pc := 32) dJ6_bitCount_0f7a4_32 ?_
  refine wp_istore_n (pc := 33) dJ6_bitCount_0f7a4_33 (by decide) ?_
  refine wp_iload_n (pc := 34) dJ6_bitCount_0f7a4_34 (by first | rfl | assumption | (repeat first | assumption | rfl | refine aG_n ?_ rfl rfl)) ?_
  refine wp_iload_n (pc := 35) dJ6_bitCount_0f7a4_35 (by first | rfl | assumption | (repeat first | assumption | rfl | refine aG_n ?_ rfl rfl)) ?_
  refine wp_bipush (pc := 36) (v := 8) dJ6_bitCount_0f7a4_36 (by decide) ?_
  refine wp_iushr (pc := 38) dJ6_bitCount_0f7a4_38 ?_
  refine wp_iadd (pc := 39) dJ6_bitCount_0f7a4_39 ?_
  refine wp_istore_n (pc := 40) dJ6_bitCount_0f7a4_40 (by decide) ?_
  refine wp_iload_n (pc := 41) dJ6_bitCount_0f7a4_41 (by first | rfl | assumption | (repeat first | assumption | rfl | refine aG_n ?_ rfl rfl)) ?_
  refine wp_iload_n (pc := 42) dJ6_bitCount_0f7a4_42 (by first | rfl | assumption | (repeat first | assumption | rfl | refine aG_n ?_ rfl rfl)) ?_
  refine wp_bipush (pc := 43) (v := 16) dJ6_bitCount_0f7a4_43 (by decide) ?_
  refine wp_iushr (pc := 45) dJ6_bitCount_0f7a4_45 ?_
  refine wp_iadd (pc := 46) dJ6_bitCount_0f7a4_46 ?_
  refine wp_istore_n (pc := 47) dJ6_bitCount_0f7a4_47 (by decide) ?_
  refine wp_iload_n (pc := 48) dJ6_bitCount_0f7a4_48 (by first | rfl | assumption | (repeat first | assumption | rfl | refine aG_n ?_ rfl rfl)) ?_
  refine wp_bipush (pc := 49) (v := 63) dJ6_bitCount_0f7a4_49 (by decide) ?_
  refine wp_iand (pc := 51) dJ6_bitCount_0f7a4_51 ?_
  refine wp_ireturn (pc := 52) dJ6_bitCount_0f7a4_52 rfl (by first | rfl | decide | assumption) ?_
  refine qEq ?_ k
  clear k
  revert x
  decide +kernel
end BITC
/-! sums over the bits of a set -/
def sumF (v : Nat → Int32) (s : Nat) : Nat → Int32
  | 0 => 0
  | n + 1 => sumF v s n + (if s.testBit n = true then v n else 0)
theorem sumF_lo {v : Nat → Int32} {s s' z : Nat} {m : Nat} (hz : s.testBit z = true) (hb : ∀ j, j < m → s'.testBit j = (s.testBit j && decide (j ≠ z))) : ∀ n, n ≤ m → sumF v s n = sumF v s' n + (if z < n then v z else 0)
  | 0, _ => by rw [if_neg (by omega)]; rfl
  | n + 1, hn => by
    have ih := sumF_lo (v := v) hz hb n (by omega)
    unfold sumF
    rw [ih]
    by_cases e : n = z
    · subst e
      rw [if_neg (show ¬ n < n by omega), if_pos hz, hb n (by omega), if_neg (show ¬ (s.testBit n && decide (n ≠ n)) = true by simp), if_pos (show n < n + 1 by omega)]
    · have hbn : s'.testBit n = s.testBit n := by rw [hb n (by omega)]; simp [e]
      rw [hbn]
      have e2 : (if z < n + 1 then v z else 0) = (if z < n then v z else 0) := by
        by_cases q : z < n
        · rw [if_pos q, if_pos (by omega)]
        · rw [if_neg q, if_neg (by omega)]
      rw [e2, Int32.add_assoc, Int32.add_assoc, Int32.add_comm (if z < n then v z else 0)]
theorem sumF_st (v : Nat → Int32) {s : Nat} (hs : s < 64) (h0 : 0 < s) : sumF v (s &&& (s - 1)) 6 + v (nz s) = sumF v s 6 := by
  obtain ⟨h1, h2⟩ := nz_bits s hs h0
  rw [sumF_lo (v := v) h1 h2 6 (by omega), if_pos nz_lt]
theorem sumF_0 (v : Nat → Int32) : ∀ n, sumF v 0 n = 0
  | 0 => rfl
  | n + 1 => by unfold sumF; rw [sumF_0 v n, if_neg (by simp)]; rfl
theorem sumF_c {v v' : Nat → Int32} (s : Nat) : ∀ n, (∀ j, j < n → v' j = v j) → sumF v' s n = sumF v s n
  | 0, _ => rfl
  | n + 1, h => by unfold sumF; rw [sumF_c s n (fun j hj => h j (by omega)), h n (by omega)]
/-! WISHES of the class -/
/-- all but a wish's three cells are as they were -/
def offW (W : Nat) (μ μ' : Mm) : Prop := (∀ c, ¬ (W ≤ c ∧ c ≤ W + 2) → μ'.1 c = μ.1 c) ∧ μ'.2 = μ.2
theorem offW.rfl {W : Nat} {μ : Mm} : offW W μ μ := ⟨fun _ _ => _root_.rfl, _root_.rfl⟩
theorem offW.up {W : Nat} {μ μ' : Mm} {a j : Nat} {v : Int32} (h : offW W μ μ') (ha : W ≤ a ∧ a ≤ W + 2) : offW W μ (up2 μ'.1 a j v, μ'.2) := ⟨fun c hc => by
  show up2 μ'.1 a j v c = μ.1 c
  rw [up2_ne (by omega)]; exact h.1 c hc, h.2⟩
theorem offW.trans {W : Nat} {μ μ' μ'' : Mm} (h : offW W μ μ') (h' : offW W μ' μ'') : offW W μ μ'' := ⟨fun c hc => (h'.1 c hc).trans (h.1 c hc), h'.2.trans h.2⟩
section WSH
variable {X : aX} {μ : Mm} {Q : Option Value → Mm → Prop} {W : Nat}
theorem l_clear (hW : Wsh W) (k : ∀ μ', offW W μ μ' → μ'.1 W 0 = 0 → (∀ s, s < 64 → μ'.1 (W + 1) s = 0 ∧ μ'.1 (W + 2) s = 0) → Q none μ') : ∀ (f t : Nat), t + f = 64 → ∀ μ', offW W μ μ' → μ'.1 W 0 = 0 → (∀ s, s < t → μ'.1 (W + 1) s = 0 ∧ μ'.1 (W + 2) s = 0) → ∀ L : aL, aL_get L 0 = some (.ref W) → aL_get L 1 = some (.int (nI t)) → WP X mX10_clear 7 L [] μ' Q
  | 0, t, ht, μ', ho, h0, hs, L, g0, g1 => by
    obtain rfl : t = 64 := by omega
    refine wp_iload_n (pc := 7) dX10_clear_7 (by first | rfl | assumption | (repeat first | assumption | rfl | refine aG_n ?_ rfl rfl)) ?_
    refine wp_bipush (pc := 8) (v := 64) dX10_clear_8 (by decide) ?_
    refine wp_icmp_ge (pc := 10) (tgt := 33) dX10_clear_10 rfl (fun _ => ?_) (fun q => absurd (nI_le (a := 64) (b := 64) (by omega) (by omega)) q)
    refine wp_vreturn (pc := 33) dX10_clear_33 rfl ?_
    exact k _ ho h0 hs
  | f + 1, t, ht, μ', ho, h0, hs, L, g0, g1 => by
    have ct : (nI t).toNatClampNeg = t := nI_clamp (by omega)
    obtain ⟨w1, w2, w3⟩ := id hW
    refine wp_iload_n (pc := 7) dX10_clear_7 (by first | rfl | assumption | (repeat first | assumption | rfl | refine aG_n ?_ rfl rfl)) ?_
    refine wp_bipush (pc := 8) (v := 64) dX10_clear_8 (by decide) ?_
    refine wp_icmp_ge (pc := 10) (tgt := 33) dX10_clear_10 rfl (fun q => absurd q (nI_ge (a := t) (b := 64) (by omega) (by omega))) (fun _ => ?_)
    refine wp_aload_n (pc := 13) dX10_clear_13 (by first | rfl | assumption | (repeat first | assumption | rfl | refine aG_n ?_ rfl rfl)) ?_
    refine wp_getR (pc := 14) dX10_clear_14 fl_10_9 (by first | rfl | assumption | exact sh_house (by omega) | exact sh_wish (by omega) | exact sh_wor (by omega) | exact sh_bar (by omega) | exact sh_term (by omega) | exact sh_sheet (by omega) | exact sh_items (by omega) | exact sh_sums (by omega)) rfl ?_
    refine wp_iload_n (pc := 17) dX10_clear_17 (by first | rfl | assumption | (repeat first | assumption | rfl | refine aG_n ?_ rfl rfl)) ?_
    refine wp_iconst (pc := 18) (v := 0) dX10_clear_18 (by decide) ?_
    refine wp_iast (pc := 19) dX10_clear_19 (by first | rfl | assumption | exact sh_house (by omega) | exact sh_wish (by omega) | exact sh_wor (by omega) | exact sh_bar (by omega) | exact sh_term (by omega) | exact sh_sheet (by omega) | exact sh_items (by omega) | exact sh_sums (by omega)) (vp_in_nI (by omega) (by decide)) ?_
    refine wp_aload_n (pc := 20) dX10_clear_20 (by first | rfl | assumption | (repeat first | assumption | rfl | refine aG_n ?_ rfl rfl)) ?_
    refine wp_getR (pc := 21) dX10_clear_21 fl_10_15 (by first | rfl | assumption | exact sh_house (by omega) | exact sh_wish (by omega) | exact sh_wor (by omega) | exact sh_bar (by omega) | exact sh_term (by omega) | exact sh_sheet (by omega) | exact sh_items (by omega) | exact sh_sums (by omega)) rfl ?_
    refine wp_iload_n (pc := 24) dX10_clear_24 (by first | rfl | assumption | (repeat first | assumption | rfl | refine aG_n ?_ rfl rfl)) ?_
    refine wp_iconst (pc := 25) (v := 0) dX10_clear_25 (by decide) ?_
    refine wp_zast (pc := 26) dX10_clear_26 (by first | rfl | assumption | exact sh_house (by omega) | exact sh_wish (by omega) | exact sh_wor (by omega) | exact sh_bar (by omega) | exact sh_term (by omega) | exact sh_sheet (by omega) | exact sh_items (by omega) | exact sh_sums (by omega)) (vp_in_nI (by omega) (by decide)) rfl ?_
    refine wp_iinc (pc := 27) dX10_clear_27 (by decide) (by first | rfl | assumption | (repeat first | assumption | rfl | refine aG_n ?_ rfl rfl)) rfl ?_
    refine wp_goto (pc := 30) (tgt := 7) dX10_clear_30 rfl ?_
    skip
    rw [ct]
    refine l_clear hW k f (t + 1) (by omega) _ ((ho.up (by omega)).up (by omega)) ?_ (fun s hs2 => ?_) _ (by first | rfl | assumption | (repeat first | assumption | rfl | refine aG_n ?_ rfl rfl)) (by rw [← nI_i1]; first | rfl | assumption | (repeat first | assumption | rfl | refine aG_n ?_ rfl rfl))
    · simp (disch := omega) only [up2_ne]; exact h0
    · by_cases e : s = t
      · subst e
        simp (disch := omega) only [up2_ne, up2_at]
        exact ⟨trivial, rfl⟩
      · simp (disch := omega) only [up2_ne, up2_p]
        exact hs s (by omega)
theorem c_X10_clear (hW : Wsh W) (k : ∀ μ', offW W μ μ' → μ'.1 W 0 = 0 → (∀ s, s < 64 → μ'.1 (W + 1) s = 0 ∧ μ'.1 (W + 2) s = 0) → Q none μ') : WP X mX10_clear 0 (lv_args 0 [.ref W]) [] μ Q := by
  obtain ⟨w1, w2, w3⟩ := id hW
  refine wp_aload_n (pc := 0) dX10_clear_0 (by first | rfl | assumption | (repeat first | assumption | rfl | refine aG_n ?_ rfl rfl)) ?_
  refine wp_iconst (pc := 1) (v := 0) dX10_clear_1 (by decide) ?_
  refine wp_putI (pc := 2) dX10_clear_2 fl_10_19 (by first | rfl | assumption | exact sh_house (by omega) | exact sh_wish (by omega) | exact sh_wor (by omega) | exact sh_bar (by omega) | exact sh_term (by omega) | exact sh_sheet (by omega) | exact sh_items (by omega) | exact sh_sums (by omega)) rfl rfl rfl ?_
  refine wp_iconst (pc := 5) (v := 0) dX10_clear_5 (by decide) ?_
  refine wp_istore_n (pc := 6) dX10_clear_6 (by decide) ?_
  exact l_clear hW k 64 0 (by omega) _ (offW.rfl.up (by omega)) up2_at (fun s hs => absurd hs (by omega)) _ (by first | rfl | assumption | (repeat first | assumption | rfl | refine aG_n ?_ rfl rfl)) (by first | rfl | assumption | (repeat first | assumption | rfl | refine aG_n ?_ rfl rfl))
theorem l_tell {A len fr : Nat} (hW : Wsh W) (hA : shp[A]? = some (.inr (.inl (0, len)))) (hAW : ¬ (W ≤ A ∧ A ≤ W + 2)) (hl : len < 2 ^ 30) (hf : fr + 6 ≤ len) (k : ∀ μ', offW W μ μ' → μ'.1 W 0 = nI 6 → (∀ s, s < 64 → μ'.1 (W + 1) s = sumF (fun j => μ.1 A (fr + j)) s 6 ∧ μ'.1 (W + 2) s = 0) → Q none μ') : ∀ (f t : Nat), t + f = 64 → 0 < t → ∀ μ', offW W μ μ' → μ'.1 W 0 = nI 6 → (∀ s, s < 64 → μ'.1 (W + 2) s = 0) → (∀ s, s < t → μ'.1 (W + 1) s = sumF (fun j => μ.1 A (fr + j)) s 6) → ∀ L : aL, aL_get L 0 = some (.ref W) → aL_get L 1 = some (.ref A) → aL_get L 2 = some (.int (nI fr)) → aL_get L 3 = some (.int (nI t)) → WP X mX10_tellAlone 26 L [] μ' Q
  | 0, t, ht, _, μ', ho, h0, hb, hs, L, g0, g1, g2, g3 => by
    obtain rfl : t = 64 := by omega
    refine wp_iload_n (pc := 26) dX10_tellAlone_26 (by first | rfl | assumption | (repeat first | assumption | rfl | refine aG_n ?_ rfl rfl)) ?_
    refine wp_bipush (pc := 27) (v := 64) dX10_tellAlone_27 (by decide) ?_
    refine wp_icmp_ge (pc := 29) (tgt := 67) dX10_tellAlone_29 rfl (fun _ => ?_) (fun q => absurd (nI_le (a := 64) (b := 64) (by omega) (by omega)) q)
    refine wp_vreturn (pc := 67) dX10_tellAlone_67 rfl ?_
    exact k _ ho h0 (fun s hs2 => ⟨hs s hs2, hb s hs2⟩)
  | f + 1, t, ht, tp, μ', ho, h0, hb, hs, L, g0, g1, g2, g3 => by
    have ct : (nI t).toNatClampNeg = t := nI_clamp (by omega)
    obtain ⟨w1, w2, w3⟩ := id hW
    obtain ⟨ap1, ap2⟩ := and_pred t (by omega) tp
    have hz := nz_lt (s := t)
    have cz : (nI fr + nI (nz t)).toNatClampNeg = fr + nz t := by rw [nI_add, nI_clamp (by omega)]
    have ca : (nI (t &&& (t - 1))).toNatClampNeg = t &&& (t - 1) := nI_clamp (by omega)
    refine wp_iload_n (pc := 26) dX10_tellAlone_26 (by first | rfl | assumption | (repeat first | assumption | rfl | refine aG_n ?_ rfl rfl)) ?_
    refine wp_bipush (pc := 27) (v := 64) dX10_tellAlone_27 (by decide) ?_
    refine wp_icmp_ge (pc := 29) (tgt := 67) dX10_tellAlone_29 rfl (fun q => absurd q (nI_ge (a := t) (b := 64) (by omega) (by omega))) (fun _ => ?_)
    refine wp_iload_n (pc := 32) dX10_tellAlone_32 (by first | rfl | assumption | (repeat first | assumption | rfl | refine aG_n ?_ rfl rfl)) ?_
    refine wp_cS (pc := 33) dX10_tellAlone_33 lk_10_26 rfl rfl rfl (c_ntz tp (by omega) (aK_i ?_))
    refine wp_istore (pc := 36) dX10_tellAlone_36 (by decide) ?_
    refine wp_aload_n (pc := 38) dX10_tellAlone_38 (by first | rfl | assumption | (repeat first | assumption | rfl | refine aG_n ?_ rfl rfl)) ?_
    refine wp_getR (pc := 39) dX10_tellAlone_39 fl_10_9 (by first | rfl | assumption | exact sh_house (by omega) | exact sh_wish (by omega) | exact sh_wor (by omega) | exact sh_bar (by omega) | exact sh_term (by omega) | exact sh_sheet (by omega) | exact sh_items (by omega) | exact sh_sums (by omega)) rfl ?_
    refine wp_iload_n (pc := 42) dX10_tellAlone_42 (by first | rfl | assumption | (repeat first | assumption | rfl | refine aG_n ?_ rfl rfl)) ?_
    refine wp_aload_n (pc := 43) dX10_tellAlone_43 (by first | rfl | assumption | (repeat first | assumption | rfl | refine aG_n ?_ rfl rfl)) ?_
    refine wp_getR (pc := 44) dX10_tellAlone_44 fl_10_9 (by first | rfl | assumption | exact sh_house (by omega) | exact sh_wish (by omega) | exact sh_wor (by omega) | exact sh_bar (by omega) | exact sh_term (by omega) | exact sh_sheet (by omega) | exact sh_items (by omega) | exact sh_sums (by omega)) rfl ?_
    refine wp_iload_n (pc := 47) dX10_tellAlone_47 (by first | rfl | assumption | (repeat first | assumption | rfl | refine aG_n ?_ rfl rfl)) ?_
    refine wp_iload_n (pc := 48) dX10_tellAlone_48 (by first | rfl | assumption | (repeat first | assumption | rfl | refine aG_n ?_ rfl rfl)) ?_
    refine wp_iconst (pc := 49) (v := 1) dX10_tellAlone_49 (by decide) ?_
    refine wp_isub (pc := 50) dX10_tellAlone_50 ?_
    refine wp_iand (pc := 51) dX10_tellAlone_51 ?_
    refine wp_iald (pc := 52) dX10_tellAlone_52 (by first | rfl | assumption | exact sh_house (by omega) | exact sh_wish (by omega) | exact sh_wor (by omega) | exact sh_bar (by omega) | exact sh_term (by omega) | exact sh_sheet (by omega) | exact sh_items (by omega) | exact sh_sums (by omega)) (by rw [ap1]; exact vp_in_nI (by omega) (by decide)) ?_
    refine wp_aload_n (pc := 53) dX10_tellAlone_53 (by first | rfl | assumption | (repeat first | assumption | rfl | refine aG_n ?_ rfl rfl)) ?_
    refine wp_iload_n (pc := 54) dX10_tellAlone_54 (by first | rfl | assumption | (repeat first | assumption | rfl | refine aG_n ?_ rfl rfl)) ?_
    refine wp_iload (pc := 55) dX10_tellAlone_55 (by first | rfl | assumption | (repeat first | assumption | rfl | refine aG_n ?_ rfl rfl)) ?_
    refine wp_iadd (pc := 57) dX10_tellAlone_57 ?_
    refine wp_iald (pc := 58) dX10_tellAlone_58 (by first | rfl | assumption | exact sh_house (by omega) | exact sh_wish (by omega) | exact sh_wor (by omega) | exact sh_bar (by omega) | exact sh_term (by omega) | exact sh_sheet (by omega) | exact sh_items (by omega) | exact sh_sums (by omega)) (by rw [nI_add]; exact vp_in_nI (by omega) (by omega)) ?_
    refine wp_iadd (pc := 59) dX10_tellAlone_59 ?_
    refine wp_iast (pc := 60) dX10_tellAlone_60 (by first | rfl | assumption | exact sh_house (by omega) | exact sh_wish (by omega) | exact sh_wor (by omega) | exact sh_bar (by omega) | exact sh_term (by omega) | exact sh_sheet (by omega) | exact sh_items (by omega) | exact sh_sums (by omega)) (vp_in_nI (by omega) (by decide)) ?_
    refine wp_iinc (pc := 61) dX10_tellAlone_61 (by decide) (by first | rfl | assumption | (repeat first | assumption | rfl | refine aG_n ?_ rfl rfl)) rfl ?_
    refine wp_goto (pc := 64) (tgt := 26) dX10_tellAlone_64 rfl ?_
    skip
    rw [ct, ap1, ca, cz, hs _ ap2, ho.1 A hAW]
    rw [show sumF (fun j => μ.1 A (fr + j)) (t &&& (t - 1)) 6 + μ.1 A (fr + nz t) = sumF (fun j => μ.1 A (fr + j)) t 6 from sumF_st (fun j => μ.1 A (fr + j)) (by omega) tp]
    refine l_tell hW hA hAW hl hf k f (t + 1) (by omega) (by omega) _ (ho.up (by omega)) ?_ (fun s hs2 => ?_) (fun s hs2 => ?_) _ (by first | rfl | assumption | (repeat first | assumption | rfl | refine aG_n ?_ rfl rfl)) (by first | rfl | assumption | (repeat first | assumption | rfl | refine aG_n ?_ rfl rfl)) (by first | rfl | assumption | (repeat first | assumption | rfl | refine aG_n ?_ rfl rfl)) (by rw [← nI_i1]; first | rfl | assumption | (repeat first | assumption | rfl | refine aG_n ?_ rfl rfl))
    · simp (disch := omega) only [up2_ne]; exact h0
    · simp (disch := omega) only [up2_ne]; exact hb s hs2
    · by_cases e : s = t
      · subst e; exact up2_at
      · dsimp only
        rw [up2_p (by omega)]; exact hs s (by omega)
theorem c_X10_tellAlone {A len fr : Nat} (hW : Wsh W) (hA : shp[A]? = some (.inr (.inl (0, len)))) (hAW : ¬ (W ≤ A ∧ A ≤ W + 2)) (hl : len < 2 ^ 30) (hf : fr + 6 ≤ len) (k : ∀ μ', offW W μ μ' → μ'.1 W 0 = nI 6 → (∀ s, s < 64 → μ'.1 (W + 1) s = sumF (fun j => μ.1 A (fr + j)) s 6 ∧ μ'.1 (W + 2) s = 0) → Q none μ') : WP X mX10_tellAlone 0 (lv_args 0 [.ref W, .ref A, .int (nI fr)]) [] μ Q := by
  obtain ⟨w1, w2, w3⟩ := id hW
  have el : Int32.ofNat len - 6 = nI (len - 6) := pk_sub (a := len) (b := 6) (by omega)
  refine wp_aload_n (pc := 0) dX10_tellAlone_0 (by first | rfl | assumption | (repeat first | assumption | rfl | refine aG_n ?_ rfl rfl)) ?_
  refine wp_cV (pc := 1) dX10_tellAlone_1 lk_10_23 rfl (by decide) rfl (by first | rfl | assumption | exact sh_house (by omega) | exact sh_wish (by omega) | exact sh_wor (by omega) | exact sh_bar (by omega) | exact sh_term (by omega) | exact sh_sheet (by omega) | exact sh_items (by omega) | exact sh_sums (by omega)) rfl rfl ?_
  refine c_X10_clear hW (fun μ1 o1 z1 s1 => aK_v ?_)
  refine wp_iload_n (pc := 4) dX10_tellAlone_4 (by first | rfl | assumption | (repeat first | assumption | rfl | refine aG_n ?_ rfl rfl)) ?_
  refine wp_if_lt (pc := 5) (tgt := 17) dX10_tellAlone_5 rfl (fun q => absurd q (nI_pos (by omega))) (fun _ => ?_)
  refine wp_iload_n (pc := 8) dX10_tellAlone_8 (by first | rfl | assumption | (repeat first | assumption | rfl | refine aG_n ?_ rfl rfl)) ?_
  refine wp_aload_n (pc := 9) dX10_tellAlone_9 (by first | rfl | assumption | (repeat first | assumption | rfl | refine aG_n ?_ rfl rfl)) ?_
  refine wp_alen (pc := 10) dX10_tellAlone_10 (by first | rfl | assumption | exact sh_house (by omega) | exact sh_wish (by omega) | exact sh_wor (by omega) | exact sh_bar (by omega) | exact sh_term (by omega) | exact sh_sheet (by omega) | exact sh_items (by omega) | exact sh_sums (by omega)) (by decide) rfl ?_
  refine wp_bipush (pc := 11) (v := 6) dX10_tellAlone_11 (by decide) ?_
  refine wp_isub (pc := 13) dX10_tellAlone_13 ?_
  refine wp_icmp_le (pc := 14) (tgt := 18) dX10_tellAlone_14 rfl (fun _ => ?_) (fun q => absurd (by rw [el]; exact nI_le (by omega) (by omega)) q)
  refine wp_aload_n (pc := 18) dX10_tellAlone_18 (by first | rfl | assumption | (repeat first | assumption | rfl | refine aG_n ?_ rfl rfl)) ?_
  refine wp_bipush (pc := 19) (v := 6) dX10_tellAlone_19 (by decide) ?_
  refine wp_putI (pc := 21) dX10_tellAlone_21 fl_10_19 (by first | rfl | assumption | exact sh_house (by omega) | exact sh_wish (by omega) | exact sh_wor (by omega) | exact sh_bar (by omega) | exact sh_term (by omega) | exact sh_sheet (by omega) | exact sh_items (by omega) | exact sh_sums (by omega)) rfl rfl rfl ?_
  refine wp_iconst (pc := 24) (v := 1) dX10_tellAlone_24 (by decide) ?_
  refine wp_istore_n (pc := 25) dX10_tellAlone_25 (by decide) ?_
  skip
  refine l_tell (μ := μ) hW hA hAW hl hf k 63 1 (by omega) (by omega) _ (o1.up (by omega)) up2_at (fun s hs => ?_) (fun s hs => ?_) _ (by first | rfl | assumption | (repeat first | assumption | rfl | refine aG_n ?_ rfl rfl)) (by first | rfl | assumption | (repeat first | assumption | rfl | refine aG_n ?_ rfl rfl)) (by first | rfl | assumption | (repeat first | assumption | rfl | refine aG_n ?_ rfl rfl)) (by first | rfl | assumption | (repeat first | assumption | rfl | refine aG_n ?_ rfl rfl))
  · dsimp only
    rw [up2_ne (by omega)]; exact (s1 s hs).2
  · obtain rfl : s = 0 := by omega
    dsimp only
    rw [up2_ne (by omega), sumF_0]; exact (s1 0 (by omega)).1
theorem l_become {V : Nat} (hW : Wsh W) (hV : Wsh V) (hVW : V + 2 < W ∨ W + 2 < V) (hb : ∀ s, s < 64 → μ.1 (V + 2) s = 0 ∨ μ.1 (V + 2) s = 1) (k : ∀ μ', offW W μ μ' → μ'.1 W 0 = μ.1 V 0 → (∀ s, s < 64 → μ'.1 (W + 1) s = μ.1 (V + 1) s ∧ μ'.1 (W + 2) s = μ.1 (V + 2) s) → Q none μ') : ∀ (f t : Nat), t + f = 64 → ∀ μ', offW W μ μ' → μ'.1 W 0 = μ.1 V 0 → (∀ s, s < t → μ'.1 (W + 1) s = μ.1 (V + 1) s ∧ μ'.1 (W + 2) s = μ.1 (V + 2) s) → ∀ L : aL, aL_get L 0 = some (.ref W) → aL_get L 1 = some (.ref V) → aL_get L 2 = some (.int (nI t)) → WP X mX10_become 10 L [] μ' Q
  | 0, t, ht, μ', ho, h0, hs, L, g0, g1, g2 => by
    obtain rfl : t = 64 := by omega
    refine wp_iload_n (pc := 10) dX10_become_10 (by first | rfl | assumption | (repeat first | assumption | rfl | refine aG_n ?_ rfl rfl)) ?_
    refine wp_bipush (pc := 11) (v := 64) dX10_become_11 (by decide) ?_
    refine wp_icmp_ge (pc := 13) (tgt := 46) dX10_become_13 rfl (fun _ => ?_) (fun q => absurd (nI_le (a := 64) (b := 64) (by omega) (by omega)) q)
    refine wp_vreturn (pc := 46) dX10_become_46 rfl ?_
    exact k _ ho h0 hs
  | f + 1, t, ht, μ', ho, h0, hs, L, g0, g1, g2 => by
    have ct : (nI t).toNatClampNeg = t := nI_clamp (by omega)
    obtain ⟨w1, w2, w3⟩ := id hW
    obtain ⟨v1, v2, v3⟩ := id hV
    have hbt : up2 μ'.1 (W + 1) (nI t).toNatClampNeg (μ'.1 (V + 1) (nI t).toNatClampNeg) (V + 2) (nI t).toNatClampNeg = μ.1 (V + 2) t := by rw [up2_ne (by omega), ct, ho.1 (V + 2) (by omega)]
    refine wp_iload_n (pc := 10) dX10_become_10 (by first | rfl | assumption | (repeat first | assumption | rfl | refine aG_n ?_ rfl rfl)) ?_
    refine wp_bipush (pc := 11) (v := 64) dX10_become_11 (by decide) ?_
    refine wp_icmp_ge (pc := 13) (tgt := 46) dX10_become_13 rfl (fun q => absurd q (nI_ge (a := t) (b := 64) (by omega) (by omega))) (fun _ => ?_)
    refine wp_aload_n (pc := 16) dX10_become_16 (by first | rfl | assumption | (repeat first | assumption | rfl | refine aG_n ?_ rfl rfl)) ?_
    refine wp_getR (pc := 17) dX10_become_17 fl_10_9 (by first | rfl | assumption | exact sh_house (by omega) | exact sh_wish (by omega) | exact sh_wor (by omega) | exact sh_bar (by omega) | exact sh_term (by omega) | exact sh_sheet (by omega) | exact sh_items (by omega) | exact sh_sums (by omega)) rfl ?_
    refine wp_iload_n (pc := 20) dX10_become_20 (by first | rfl | assumption | (repeat first | assumption | rfl | refine aG_n ?_ rfl rfl)) ?_
    refine wp_aload_n (pc := 21) dX10_become_21 (by first | rfl | assumption | (repeat first | assumption | rfl | refine aG_n ?_ rfl rfl)) ?_
    refine wp_getR (pc := 22) dX10_become_22 fl_10_9 (by first | rfl | assumption | exact sh_house (by omega) | exact sh_wish (by omega) | exact sh_wor (by omega) | exact sh_bar (by omega) | exact sh_term (by omega) | exact sh_sheet (by omega) | exact sh_items (by omega) | exact sh_sums (by omega)) rfl ?_
    refine wp_iload_n (pc := 25) dX10_become_25 (by first | rfl | assumption | (repeat first | assumption | rfl | refine aG_n ?_ rfl rfl)) ?_
    refine wp_iald (pc := 26) dX10_become_26 (by first | rfl | assumption | exact sh_house (by omega) | exact sh_wish (by omega) | exact sh_wor (by omega) | exact sh_bar (by omega) | exact sh_term (by omega) | exact sh_sheet (by omega) | exact sh_items (by omega) | exact sh_sums (by omega)) (vp_in_nI (by omega) (by decide)) ?_
    refine wp_iast (pc := 27) dX10_become_27 (by first | rfl | assumption | exact sh_house (by omega) | exact sh_wish (by omega) | exact sh_wor (by omega) | exact sh_bar (by omega) | exact sh_term (by omega) | exact sh_sheet (by omega) | exact sh_items (by omega) | exact sh_sums (by omega)) (vp_in_nI (by omega) (by decide)) ?_
    refine wp_aload_n (pc := 28) dX10_become_28 (by first | rfl | assumption | (repeat first | assumption | rfl | refine aG_n ?_ rfl rfl)) ?_
    refine wp_getR (pc := 29) dX10_become_29 fl_10_15 (by first | rfl | assumption | exact sh_house (by omega) | exact sh_wish (by omega) | exact sh_wor (by omega) | exact sh_bar (by omega) | exact sh_term (by omega) | exact sh_sheet (by omega) | exact sh_items (by omega) | exact sh_sums (by omega)) rfl ?_
    refine wp_iload_n (pc := 32) dX10_become_32 (by first | rfl | assumption | (repeat first | assumption | rfl | refine aG_n ?_ rfl rfl)) ?_
    refine wp_aload_n (pc := 33) dX10_become_33 (by first | rfl | assumption | (repeat first | assumption | rfl | refine aG_n ?_ rfl rfl)) ?_
    refine wp_getR (pc := 34) dX10_become_34 fl_10_15 (by first | rfl | assumption | exact sh_house (by omega) | exact sh_wish (by omega) | exact sh_wor (by omega) | exact sh_bar (by omega) | exact sh_term (by omega) | exact sh_sheet (by omega) | exact sh_items (by omega) | exact sh_sums (by omega)) rfl ?_
    refine wp_iload_n (pc := 37) dX10_become_37 (by first | rfl | assumption | (repeat first | assumption | rfl | refine aG_n ?_ rfl rfl)) ?_
    refine wp_zald (pc := 38) dX10_become_38 (by first | rfl | assumption | exact sh_house (by omega) | exact sh_wish (by omega) | exact sh_wor (by omega) | exact sh_bar (by omega) | exact sh_term (by omega) | exact sh_sheet (by omega) | exact sh_items (by omega) | exact sh_sums (by omega)) (vp_in_nI (by omega) (by decide)) ?_
    refine wp_zast (pc := 39) dX10_become_39 (by first | rfl | assumption | exact sh_house (by omega) | exact sh_wish (by omega) | exact sh_wor (by omega) | exact sh_bar (by omega) | exact sh_term (by omega) | exact sh_sheet (by omega) | exact sh_items (by omega) | exact sh_sums (by omega)) (vp_in_nI (by omega) (by decide)) (show vp_nar .boolean (up2 μ'.1 (W + 1) (nI t).toNatClampNeg (μ'.1 (V + 1) (nI t).toNatClampNeg) (V + 2) (nI t).toNatClampNeg) = μ.1 (V + 2) t by rw [hbt]; rcases hb t (by omega) with z | z <;> rw [z] <;> rfl) ?_
    refine wp_iinc (pc := 40) dX10_become_40 (by decide) (by first | rfl | assumption | (repeat first | assumption | rfl | refine aG_n ?_ rfl rfl)) rfl ?_
    refine wp_goto (pc := 43) (tgt := 10) dX10_become_43 rfl ?_
    skip
    rw [ct, ho.1 (V + 1) (by omega)]
    refine l_become hW hV hVW hb k f (t + 1) (by omega) _ ((ho.up (by omega)).up (by omega)) ?_ (fun s hs2 => ?_) _ (by first | rfl | assumption | (repeat first | assumption | rfl | refine aG_n ?_ rfl rfl)) (by first | rfl | assumption | (repeat first | assumption | rfl | refine aG_n ?_ rfl rfl)) (by rw [← nI_i1]; first | rfl | assumption | (repeat first | assumption | rfl | refine aG_n ?_ rfl rfl))
    · simp (disch := omega) only [up2_ne]; exact h0
    · by_cases e : s = t
      · subst e
        simp (disch := omega) only [up2_ne, up2_at]
        exact ⟨trivial, trivial⟩
      · simp (disch := omega) only [up2_ne, up2_p]
        exact hs s (by omega)
theorem c_X10_become {V : Nat} (hW : Wsh W) (hV : Wsh V) (hVW : V + 2 < W ∨ W + 2 < V) (hb : ∀ s, s < 64 → μ.1 (V + 2) s = 0 ∨ μ.1 (V + 2) s = 1) (k : ∀ μ', offW W μ μ' → μ'.1 W 0 = μ.1 V 0 → (∀ s, s < 64 → μ'.1 (W + 1) s = μ.1 (V + 1) s ∧ μ'.1 (W + 2) s = μ.1 (V + 2) s) → Q none μ') : WP X mX10_become 0 (lv_args 0 [.ref W, .ref V]) [] μ Q := by
  obtain ⟨w1, w2, w3⟩ := id hW
  obtain ⟨v1, v2, v3⟩ := id hV
  refine wp_aload_n (pc := 0) dX10_become_0 (by first | rfl | assumption | (repeat first | assumption | rfl | refine aG_n ?_ rfl rfl)) ?_
  refine wp_aload_n (pc := 1) dX10_become_1 (by first | rfl | assumption | (repeat first | assumption | rfl | refine aG_n ?_ rfl rfl)) ?_
  refine wp_getI (pc := 2) dX10_become_2 fl_10_19 (by first | rfl | assumption | exact sh_house (by omega) | exact sh_wish (by omega) | exact sh_wor (by omega) | exact sh_bar (by omega) | exact sh_term (by omega) | exact sh_sheet (by omega) | exact sh_items (by omega) | exact sh_sums (by omega)) rfl ?_
  refine wp_putI (pc := 5) dX10_become_5 fl_10_19 (by first | rfl | assumption | exact sh_house (by omega) | exact sh_wish (by omega) | exact sh_wor (by omega) | exact sh_bar (by omega) | exact sh_term (by omega) | exact sh_sheet (by omega) | exact sh_items (by omega) | exact sh_sums (by omega)) rfl rfl rfl ?_
  refine wp_iconst (pc := 8) (v := 0) dX10_become_8 (by decide) ?_
  refine wp_istore_n (pc := 9) dX10_become_9 (by decide) ?_
  exact l_become hW hV hVW hb k 64 0 (by omega) _ (offW.rfl.up (by omega)) up2_at (fun s hs => absurd hs (by omega)) _ (by first | rfl | assumption | (repeat first | assumption | rfl | refine aG_n ?_ rfl rfl)) (by first | rfl | assumption | (repeat first | assumption | rfl | refine aG_n ?_ rfl rfl)) (by first | rfl | assumption | (repeat first | assumption | rfl | refine aG_n ?_ rfl rfl))
theorem sub_l : ∀ x, x < 64 → ∀ y, y < 64 → (nI x &&& nI y = nI y ↔ y &&& x = y) := by decide +kernel
theorem l_addN {l : Nat} {v : Int32} (hl : l < 64) (hW : Wsh W) (k : ∀ μ', offW W μ μ' → μ'.1 W 0 = μ.1 W 0 + 1 → (∀ s, s < 64 → μ'.1 (W + 1) s = (if l &&& s = l then μ.1 (W + 1) s + v else μ.1 (W + 1) s) ∧ μ'.1 (W + 2) s = μ.1 (W + 2) s) → Q none μ') : ∀ (f t : Nat), t + f = 64 → ∀ μ', offW W μ μ' → μ'.1 W 0 = μ.1 W 0 + 1 → (∀ s, s < 64 → μ'.1 (W + 1) s = (if s < t ∧ l &&& s = l then μ.1 (W + 1) s + v else μ.1 (W + 1) s) ∧ μ'.1 (W + 2) s = μ.1 (W + 2) s) → ∀ L : aL, aL_get L 0 = some (.ref W) → aL_get L 1 = some (.int (nI l)) → aL_get L 2 = some (.int v) → aL_get L 3 = some (.int (nI t)) → WP X mX10_addNumber 12 L [] μ' Q
  | 0, t, ht, μ', ho, h0, hs, L, g0, g1, g2, g3 => by
    obtain rfl : t = 64 := by omega
    refine wp_iload_n (pc := 12) dX10_addNumber_12 (by first | rfl | assumption | (repeat first | assumption | rfl | refine aG_n ?_ rfl rfl)) ?_
    refine wp_bipush (pc := 13) (v := 64) dX10_addNumber_13 (by decide) ?_
    refine wp_icmp_ge (pc := 15) (tgt := 41) dX10_addNumber_15 rfl (fun _ => ?_) (fun q => absurd (nI_le (a := 64) (b := 64) (by omega) (by omega)) q)
    refine wp_vreturn (pc := 41) dX10_addNumber_41 rfl ?_
    skip
    refine k _ ho h0 (fun s hs2 => ⟨?_, (hs s hs2).2⟩)
    rw [(hs s hs2).1]
    by_cases c : l &&& s = l
    · rw [if_pos ⟨hs2, c⟩, if_pos c]
    · rw [if_neg (fun z => c z.2), if_neg c]
  | f + 1, t, ht, μ', ho, h0, hs, L, g0, g1, g2, g3 => by
    have ct : (nI t).toNatClampNeg = t := nI_clamp (by omega)
    obtain ⟨w1, w2, w3⟩ := id hW
    have cs := sub_l t (by omega) l hl
    by_cases c : l &&& t = l
    · refine wp_iload_n (pc := 12) dX10_addNumber_12 (by first | rfl | assumption | (repeat first | assumption | rfl | refine aG_n ?_ rfl rfl)) ?_
      refine wp_bipush (pc := 13) (v := 64) dX10_addNumber_13 (by decide) ?_
      refine wp_icmp_ge (pc := 15) (tgt := 41) dX10_addNumber_15 rfl (fun q => absurd q (nI_ge (a := t) (b := 64) (by omega) (by omega))) (fun _ => ?_)
      refine wp_iload_n (pc := 18) dX10_addNumber_18 (by first | rfl | assumption | (repeat first | assumption | rfl | refine aG_n ?_ rfl rfl)) ?_
      refine wp_iload_n (pc := 19) dX10_addNumber_19 (by first | rfl | assumption | (repeat first | assumption | rfl | refine aG_n ?_ rfl rfl)) ?_
      refine wp_iand (pc := 20) dX10_addNumber_20 ?_
      refine wp_iload_n (pc := 21) dX10_addNumber_21 (by first | rfl | assumption | (repeat first | assumption | rfl | refine aG_n ?_ rfl rfl)) ?_
      refine wp_icmp_ne (pc := 22) (tgt := 35) dX10_addNumber_22 rfl (fun q => absurd (cs.mpr c) q) (fun _ => ?_)
      refine wp_aload_n (pc := 25) dX10_addNumber_25 (by first | rfl | assumption | (repeat first | assumption | rfl | refine aG_n ?_ rfl rfl)) ?_
      refine wp_getR (pc := 26) dX10_addNumber_26 fl_10_9 (by first | rfl | assumption | exact sh_house (by omega) | exact sh_wish (by omega) | exact sh_wor (by omega) | exact sh_bar (by omega) | exact sh_term (by omega) | exact sh_sheet (by omega) | exact sh_items (by omega) | exact sh_sums (by omega)) rfl ?_
      refine wp_iload_n (pc := 29) dX10_addNumber_29 (by first | rfl | assumption | (repeat first | assumption | rfl | refine aG_n ?_ rfl rfl)) ?_
      refine wp_dup2 (pc := 30) dX10_addNumber_30 ?_
      refine wp_iald (pc := 31) dX10_addNumber_31 (by first | rfl | assumption | exact sh_house (by omega) | exact sh_wish (by omega) | exact sh_wor (by omega) | exact sh_bar (by omega) | exact sh_term (by omega) | exact sh_sheet (by omega) | exact sh_items (by omega) | exact sh_sums (by omega)) (vp_in_nI (by omega) (by decide)) ?_
      refine wp_iload_n (pc := 32) dX10_addNumber_32 (by first | rfl | assumption | (repeat first | assumption | rfl | refine aG_n ?_ rfl rfl)) ?_
      refine wp_iadd (pc := 33) dX10_addNumber_33 ?_
      refine wp_iast (pc := 34) dX10_addNumber_34 (by first | rfl | assumption | exact sh_house (by omega) | exact sh_wish (by omega) | exact sh_wor (by omega) | exact sh_bar (by omega) | exact sh_term (by omega) | exact sh_sheet (by omega) | exact sh_items (by omega) | exact sh_sums (by omega)) (vp_in_nI (by omega) (by decide)) ?_
      refine wp_iinc (pc := 35) dX10_addNumber_35 (by decide) (by first | rfl | assumption | (repeat first | assumption | rfl | refine aG_n ?_ rfl rfl)) rfl ?_
      refine wp_goto (pc := 38) (tgt := 12) dX10_addNumber_38 rfl ?_
      skip
      rw [ct, (hs t (by omega)).1, if_neg (fun z => absurd z.1 (by omega))]
      refine l_addN hl hW k f (t + 1) (by omega) _ (ho.up (by omega)) ?_ (fun s hs2 => ?_) _ (by first | rfl | assumption | (repeat first | assumption | rfl | refine aG_n ?_ rfl rfl)) (by first | rfl | assumption | (repeat first | assumption | rfl | refine aG_n ?_ rfl rfl)) (by first | rfl | assumption | (repeat first | assumption | rfl | refine aG_n ?_ rfl rfl)) (by rw [← nI_i1]; first | rfl | assumption | (repeat first | assumption | rfl | refine aG_n ?_ rfl rfl))
      · simp (disch := omega) only [up2_ne]; exact h0
      · by_cases e : s = t
        · subst e
          rw [if_pos ⟨by omega, c⟩]
          simp (disch := omega) only [up2_ne, up2_at]
          exact ⟨trivial, (hs s hs2).2⟩
        · simp (disch := omega) only [up2_ne, up2_p]
          refine ⟨?_, (hs s hs2).2⟩
          rw [(hs s hs2).1]
          by_cases q : s < t ∧ l &&& s = l
          · rw [if_pos q, if_pos ⟨by omega, q.2⟩]
          · rw [if_neg q, if_neg (fun z => q ⟨by omega, z.2⟩)]
    · refine wp_iload_n (pc := 12) dX10_addNumber_12 (by first | rfl | assumption | (repeat first | assumption | rfl | refine aG_n ?_ rfl rfl)) ?_
      refine wp_bipush (pc := 13) (v := 64) dX10_addNumber_13 (by decide) ?_
      refine wp_icmp_ge (pc := 15) (tgt := 41) dX10_addNumber_15 rfl (fun q => absurd q (nI_ge (a := t) (b := 64) (by omega) (by omega))) (fun _ => ?_)
      refine wp_iload_n (pc := 18) dX10_addNumber_18 (by first | rfl | assumption | (repeat first | assumption | rfl | refine aG_n ?_ rfl rfl)) ?_
      refine wp_iload_n (pc := 19) dX10_addNumber_19 (by first | rfl | assumption | (repeat first | assumption | rfl | refine aG_n ?_ rfl rfl)) ?_
      refine wp_iand (pc := 20) dX10_addNumber_20 ?_
      refine wp_iload_n (pc := 21) dX10_addNumber_21 (by first | rfl | assumption | (repeat first | assumption | rfl | refine aG_n ?_ rfl rfl)) ?_
      refine wp_icmp_ne (pc := 22) (tgt := 35) dX10_addNumber_22 rfl (fun _ => ?_) (fun q => absurd q (fun z => c (cs.mp z)))
      refine wp_iinc (pc := 35) dX10_addNumber_35 (by decide) (by first | rfl | assumption | (repeat first | assumption | rfl | refine aG_n ?_ rfl rfl)) rfl ?_
      refine wp_goto (pc := 38) (tgt := 12) dX10_addNumber_38 rfl ?_
      skip
      refine l_addN hl hW k f (t + 1) (by omega) _ ho h0 (fun s hs2 => ⟨?_, (hs s hs2).2⟩) _ (by first | rfl | assumption | (repeat first | assumption | rfl | refine aG_n ?_ rfl rfl)) (by first | rfl | assumption | (repeat first | assumption | rfl | refine aG_n ?_ rfl rfl)) (by first | rfl | assumption | (repeat first | assumption | rfl | refine aG_n ?_ rfl rfl)) (by rw [← nI_i1]; first | rfl | assumption | (repeat first | assumption | rfl | refine aG_n ?_ rfl rfl))
      rw [(hs s hs2).1]
      by_cases q : s < t ∧ l &&& s = l
      · rw [if_pos q, if_pos ⟨by omega, q.2⟩]
      · rw [if_neg q, if_neg (fun z => by
          by_cases e : s = t
          · subst e; exact c z.2
          · exact q ⟨by omega, z.2⟩)]
theorem c_X10_addNumber {l : Nat} {v : Int32} (hl : l < 64) (hW : Wsh W) (k : ∀ μ', offW W μ μ' → μ'.1 W 0 = μ.1 W 0 + 1 → (∀ s, s < 64 → μ'.1 (W + 1) s = (if l &&& s = l then μ.1 (W + 1) s + v else μ.1 (W + 1) s) ∧ μ'.1 (W + 2) s = μ.1 (W + 2) s) → Q none μ') : WP X mX10_addNumber 0 (lv_args 0 [.ref W, .int (nI l), .int v]) [] μ Q := by
  obtain ⟨w1, w2, w3⟩ := id hW
  refine wp_aload_n (pc := 0) dX10_addNumber_0 (by first | rfl | assumption | (repeat first | assumption | rfl | refine aG_n ?_ rfl rfl)) ?_
  refine wp_dupr (pc := 1) dX10_addNumber_1 ?_
  refine wp_getI (pc := 2) dX10_addNumber_2 fl_10_19 (by first | rfl | assumption | exact sh_house (by omega) | exact sh_wish (by omega) | exact sh_wor (by omega) | exact sh_bar (by omega) | exact sh_term (by omega) | exact sh_sheet (by omega) | exact sh_items (by omega) | exact sh_sums (by omega)) rfl ?_
  refine wp_iconst (pc := 5) (v := 1) dX10_addNumber_5 (by decide) ?_
  refine wp_iadd (pc := 6) dX10_addNumber_6 ?_
  refine wp_putI (pc := 7) dX10_addNumber_7 fl_10_19 (by first | rfl | assumption | exact sh_house (by omega) | exact sh_wish (by omega) | exact sh_wor (by omega) | exact sh_bar (by omega) | exact sh_term (by omega) | exact sh_sheet (by omega) | exact sh_items (by omega) | exact sh_sums (by omega)) rfl rfl rfl ?_
  refine wp_iconst (pc := 10) (v := 0) dX10_addNumber_10 (by decide) ?_
  refine wp_istore_n (pc := 11) dX10_addNumber_11 (by decide) ?_
  skip
  refine l_addN (μ := μ) hl hW k 64 0 (by omega) _ (offW.rfl.up (by omega)) up2_at (fun s hs => ⟨?_, ?_⟩) _ (by first | rfl | assumption | (repeat first | assumption | rfl | refine aG_n ?_ rfl rfl)) (by first | rfl | assumption | (repeat first | assumption | rfl | refine aG_n ?_ rfl rfl)) (by first | rfl | assumption | (repeat first | assumption | rfl | refine aG_n ?_ rfl rfl)) (by first | rfl | assumption | (repeat first | assumption | rfl | refine aG_n ?_ rfl rfl))
  · rw [if_neg (fun z => absurd z.1 (by omega))]; dsimp only; rw [up2_ne (by omega)]
  · dsimp only; rw [up2_ne (by omega)]
theorem l_addB {l : Nat} (hl : l < 64) (hW : Wsh W) (k : ∀ μ', offW W μ μ' → μ'.1 W 0 = μ.1 W 0 + 1 → (∀ s, s < 64 → μ'.1 (W + 2) s = (if l &&& s = l then 1 else μ.1 (W + 2) s) ∧ μ'.1 (W + 1) s = μ.1 (W + 1) s) → Q none μ') : ∀ (f t : Nat), t + f = 64 → ∀ μ', offW W μ μ' → μ'.1 W 0 = μ.1 W 0 + 1 → (∀ s, s < 64 → μ'.1 (W + 2) s = (if s < t ∧ l &&& s = l then 1 else μ.1 (W + 2) s) ∧ μ'.1 (W + 1) s = μ.1 (W + 1) s) → ∀ L : aL, aL_get L 0 = some (.ref W) → aL_get L 1 = some (.int (nI l)) → aL_get L 2 = some (.int (nI t)) → WP X mX10_addBar 12 L [] μ' Q
  | 0, t, ht, μ', ho, h0, hs, L, g0, g1, g2 => by
    obtain rfl : t = 64 := by omega
    refine wp_iload_n (pc := 12) dX10_addBar_12 (by first | rfl | assumption | (repeat first | assumption | rfl | refine aG_n ?_ rfl rfl)) ?_
    refine wp_bipush (pc := 13) (v := 64) dX10_addBar_13 (by decide) ?_
    refine wp_icmp_ge (pc := 15) (tgt := 38) dX10_addBar_15 rfl (fun _ => ?_) (fun q => absurd (nI_le (a := 64) (b := 64) (by omega) (by omega)) q)
    refine wp_vreturn (pc := 38) dX10_addBar_38 rfl ?_
    skip
    refine k _ ho h0 (fun s hs2 => ⟨?_, (hs s hs2).2⟩)
    rw [(hs s hs2).1]
    by_cases c : l &&& s = l
    · rw [if_pos ⟨hs2, c⟩, if_pos c]
    · rw [if_neg (fun z => c z.2), if_neg c]
  | f + 1, t, ht, μ', ho, h0, hs, L, g0, g1, g2 => by
    have ct : (nI t).toNatClampNeg = t := nI_clamp (by omega)
    obtain ⟨w1, w2, w3⟩ := id hW
    have cs := sub_l t (by omega) l hl
    by_cases c : l &&& t = l
    · refine wp_iload_n (pc := 12) dX10_addBar_12 (by first | rfl | assumption | (repeat first | assumption | rfl | refine aG_n ?_ rfl rfl)) ?_
      refine wp_bipush (pc := 13) (v := 64) dX10_addBar_13 (by decide) ?_
      refine wp_icmp_ge (pc := 15) (tgt := 38) dX10_addBar_15 rfl (fun q => absurd q (nI_ge (a := t) (b := 64) (by omega) (by omega))) (fun _ => ?_)
      refine wp_iload_n (pc := 18) dX10_addBar_18 (by first | rfl | assumption | (repeat first | assumption | rfl | refine aG_n ?_ rfl rfl)) ?_
      refine wp_iload_n (pc := 19) dX10_addBar_19 (by first | rfl | assumption | (repeat first | assumption | rfl | refine aG_n ?_ rfl rfl)) ?_
      refine wp_iand (pc := 20) dX10_addBar_20 ?_
      refine wp_iload_n (pc := 21) dX10_addBar_21 (by first | rfl | assumption | (repeat first | assumption | rfl | refine aG_n ?_ rfl rfl)) ?_
      refine wp_icmp_ne (pc := 22) (tgt := 32) dX10_addBar_22 rfl (fun q => absurd (cs.mpr c) q) (fun _ => ?_)
      refine wp_aload_n (pc := 25) dX10_addBar_25 (by first | rfl | assumption | (repeat first | assumption | rfl | refine aG_n ?_ rfl rfl)) ?_
      refine wp_getR (pc := 26) dX10_addBar_26 fl_10_15 (by first | rfl | assumption | exact sh_house (by omega) | exact sh_wish (by omega) | exact sh_wor (by omega) | exact sh_bar (by omega) | exact sh_term (by omega) | exact sh_sheet (by omega) | exact sh_items (by omega) | exact sh_sums (by omega)) rfl ?_
      refine wp_iload_n (pc := 29) dX10_addBar_29 (by first | rfl | assumption | (repeat first | assumption | rfl | refine aG_n ?_ rfl rfl)) ?_
      refine wp_iconst (pc := 30) (v := 1) dX10_addBar_30 (by decide) ?_
      refine wp_zast (pc := 31) dX10_addBar_31 (by first | rfl | assumption | exact sh_house (by omega) | exact sh_wish (by omega) | exact sh_wor (by omega) | exact sh_bar (by omega) | exact sh_term (by omega) | exact sh_sheet (by omega) | exact sh_items (by omega) | exact sh_sums (by omega)) (vp_in_nI (by omega) (by decide)) rfl ?_
      refine wp_iinc (pc := 32) dX10_addBar_32 (by decide) (by first | rfl | assumption | (repeat first | assumption | rfl | refine aG_n ?_ rfl rfl)) rfl ?_
      refine wp_goto (pc := 35) (tgt := 12) dX10_addBar_35 rfl ?_
      skip
      rw [ct]
      refine l_addB hl hW k f (t + 1) (by omega) _ (ho.up (by omega)) ?_ (fun s hs2 => ?_) _ (by first | rfl | assumption | (repeat first | assumption | rfl | refine aG_n ?_ rfl rfl)) (by first | rfl | assumption | (repeat first | assumption | rfl | refine aG_n ?_ rfl rfl)) (by rw [← nI_i1]; first | rfl | assumption | (repeat first | assumption | rfl | refine aG_n ?_ rfl rfl))
      · simp (disch := omega) only [up2_ne]; exact h0
      · by_cases e : s = t
        · subst e
          rw [if_pos ⟨by omega, c⟩]
          simp (disch := omega) only [up2_ne, up2_at]
          exact ⟨rfl, (hs s hs2).2⟩
        · simp (disch := omega) only [up2_ne, up2_p]
          refine ⟨?_, (hs s hs2).2⟩
          rw [(hs s hs2).1]
          by_cases q : s < t ∧ l &&& s = l
          · rw [if_pos q, if_pos ⟨by omega, q.2⟩]
          · rw [if_neg q, if_neg (fun z => q ⟨by omega, z.2⟩)]
    · refine wp_iload_n (pc := 12) dX10_addBar_12 (by first | rfl | assumption | (repeat first | assumption | rfl | refine aG_n ?_ rfl rfl)) ?_
      refine wp_bipush (pc := 13) (v := 64) dX10_addBar_13 (by decide) ?_
      refine wp_icmp_ge (pc := 15) (tgt := 38) dX10_addBar_15 rfl (fun q => absurd q (nI_ge (a := t) (b := 64) (by omega) (by omega))) (fun _ => ?_)
      refine wp_iload_n (pc := 18) dX10_addBar_18 (by first | rfl | assumption | (repeat first | assumption | rfl | refine aG_n ?_ rfl rfl)) ?_
      refine wp_iload_n (pc := 19) dX10_addBar_19 (by first | rfl | assumption | (repeat first | assumption | rfl | refine aG_n ?_ rfl rfl)) ?_
      refine wp_iand (pc := 20) dX10_addBar_20 ?_
      refine wp_iload_n (pc := 21) dX10_addBar_21 (by first | rfl | assumption | (repeat first | assumption | rfl | refine aG_n ?_ rfl rfl)) ?_
      refine wp_icmp_ne (pc := 22) (tgt := 32) dX10_addBar_22 rfl (fun _ => ?_) (fun q => absurd q (fun z => c (cs.mp z)))
      refine wp_iinc (pc := 32) dX10_addBar_32 (by decide) (by first | rfl | assumption | (repeat first | assumption | rfl | refine aG_n ?_ rfl rfl)) rfl ?_
      refine wp_goto (pc := 35) (tgt := 12) dX10_addBar_35 rfl ?_
      skip
      refine l_addB hl hW k f (t + 1) (by omega) _ ho h0 (fun s hs2 => ⟨?_, (hs s hs2).2⟩) _ (by first | rfl | assumption | (repeat first | assumption | rfl | refine aG_n ?_ rfl rfl)) (by first | rfl | assumption | (repeat first | assumption | rfl | refine aG_n ?_ rfl rfl)) (by rw [← nI_i1]; first | rfl | assumption | (repeat first | assumption | rfl | refine aG_n ?_ rfl rfl))
      rw [(hs s hs2).1]
      by_cases q : s < t ∧ l &&& s = l
      · rw [if_pos q, if_pos ⟨by omega, q.2⟩]
      · rw [if_neg q, if_neg (fun z => by
          by_cases e : s = t
          · subst e; exact c z.2
          · exact q ⟨by omega, z.2⟩)]
theorem c_X10_addBar {l : Nat} (hl : l < 64) (hW : Wsh W) (k : ∀ μ', offW W μ μ' → μ'.1 W 0 = μ.1 W 0 + 1 → (∀ s, s < 64 → μ'.1 (W + 2) s = (if l &&& s = l then 1 else μ.1 (W + 2) s) ∧ μ'.1 (W + 1) s = μ.1 (W + 1) s) → Q none μ') : WP X mX10_addBar 0 (lv_args 0 [.ref W, .int (nI l)]) [] μ Q := by
  obtain ⟨w1, w2, w3⟩ := id hW
  refine wp_aload_n (pc := 0) dX10_addBar_0 (by first | rfl | assumption | (repeat first | assumption | rfl | refine aG_n ?_ rfl rfl)) ?_
  refine wp_dupr (pc := 1) dX10_addBar_1 ?_
  refine wp_getI (pc := 2) dX10_addBar_2 fl_10_19 (by first | rfl | assumption | exact sh_house (by omega) | exact sh_wish (by omega) | exact sh_wor (by omega) | exact sh_bar (by omega) | exact sh_term (by omega) | exact sh_sheet (by omega) | exact sh_items (by omega) | exact sh_sums (by omega)) rfl ?_
  refine wp_iconst (pc := 5) (v := 1) dX10_addBar_5 (by decide) ?_
  refine wp_iadd (pc := 6) dX10_addBar_6 ?_
  refine wp_putI (pc := 7) dX10_addBar_7 fl_10_19 (by first | rfl | assumption | exact sh_house (by omega) | exact sh_wish (by omega) | exact sh_wor (by omega) | exact sh_bar (by omega) | exact sh_term (by omega) | exact sh_sheet (by omega) | exact sh_items (by omega) | exact sh_sums (by omega)) rfl rfl rfl ?_
  refine wp_iconst (pc := 10) (v := 0) dX10_addBar_10 (by decide) ?_
  refine wp_istore_n (pc := 11) dX10_addBar_11 (by decide) ?_
  skip
  refine l_addB (μ := μ) hl hW k 64 0 (by omega) _ (offW.rfl.up (by omega)) up2_at (fun s hs => ⟨?_, ?_⟩) _ (by first | rfl | assumption | (repeat first | assumption | rfl | refine aG_n ?_ rfl rfl)) (by first | rfl | assumption | (repeat first | assumption | rfl | refine aG_n ?_ rfl rfl)) (by first | rfl | assumption | (repeat first | assumption | rfl | refine aG_n ?_ rfl rfl))
  · rw [if_neg (fun z => absurd z.1 (by omega))]; dsimp only; rw [up2_ne (by omega)]
  · dsimp only; rw [up2_ne (by omega)]
/-! groups forget, clauses are kept -/
theorem or_b4 : ∀ i, i < 4 → ∀ st, st < 16 → nI st ||| ((1 : Int32) <<< (nI i &&& 31)) = nI (st ||| 2 ^ i) ∧ st ||| 2 ^ i < 16 := by decide +kernel
theorem c_X0_forget {i st : Nat} (hi : i < 4) (hst : st < 16) (h11 : μ.1 11 1 = nI st) (k : Q none (up2 μ.1 11 1 (nI (st ||| 2 ^ i)), μ.2)) : WP X mX0_forget 0 (lv_args 0 [.ref 11, .int (nI i)]) [] μ Q := by
  refine wp_aload_n (pc := 0) dX0_forget_0 (by first | rfl | assumption | (repeat first | assumption | rfl | refine aG_n ?_ rfl rfl)) ?_
  refine wp_dupr (pc := 1) dX0_forget_1 ?_
  refine wp_getI (pc := 2) dX0_forget_2 fl_0_16 (by first | rfl | assumption | exact sh_house (by omega) | exact sh_wish (by omega) | exact sh_wor (by omega) | exact sh_bar (by omega) | exact sh_term (by omega) | exact sh_sheet (by omega) | exact sh_items (by omega) | exact sh_sums (by omega)) rfl ?_
  refine wp_iconst (pc := 5) (v := 1) dX0_forget_5 (by decide) ?_
  refine wp_iload_n (pc := 6) dX0_forget_6 (by first | rfl | assumption | (repeat first | assumption | rfl | refine aG_n ?_ rfl rfl)) ?_
  refine wp_ishl (pc := 7) dX0_forget_7 ?_
  refine wp_ior (pc := 8) dX0_forget_8 ?_
  refine wp_putI (pc := 9) dX0_forget_9 fl_0_16 (by first | rfl | assumption | exact sh_house (by omega) | exact sh_wish (by omega) | exact sh_wor (by omega) | exact sh_bar (by omega) | exact sh_term (by omega) | exact sh_sheet (by omega) | exact sh_items (by omega) | exact sh_sums (by omega)) rfl rfl rfl ?_
  refine wp_vreturn (pc := 12) dX0_forget_12 rfl ?_
  rw [h11, (or_b4 i hi st hst).1]; exact k
def kcM (M : MM) (i t : Nat) (s n b : Int32) : MM := up2 (up2 (up2 (up2 M 93 (12 * i + t) s) 94 (12 * i + t) n) 95 (12 * i + t) b) 92 i (nI (t + 1))
theorem c_X12_keepClause {i t : Nat} {s n b : Int32} (hi : i < 4) (ht : t < 12) (hb : b = 0 ∨ b = 1) (k : Q none (kcM μ.1 i t s n b, μ.2)) : WP X mX12_keepClause 0 (lv_args 0 [.ref 86, .int (nI i), .int (nI t), .int s, .int n, .int b]) [] μ Q := by
  have ci : (nI i).toNatClampNeg = i := nI_clamp (by omega)
  have e12 : (12 : Int32) * nI i + nI t = nI (12 * i + t) := by rw [n12, nI_add]
  have c12 : (nI (12 * i + t)).toNatClampNeg = 12 * i + t := nI_clamp (by omega)
  refine wp_aload_n (pc := 0) dX12_keepClause_0 (by first | rfl | assumption | (repeat first | assumption | rfl | refine aG_n ?_ rfl rfl)) ?_
  refine wp_getR (pc := 1) dX12_keepClause_1 fl_12_28 (by first | rfl | assumption | exact sh_house (by omega) | exact sh_wish (by omega) | exact sh_wor (by omega) | exact sh_bar (by omega) | exact sh_term (by omega) | exact sh_sheet (by omega) | exact sh_items (by omega) | exact sh_sums (by omega)) rfl ?_
  refine wp_bipush (pc := 4) (v := 12) dX12_keepClause_4 (by decide) ?_
  refine wp_iload_n (pc := 6) dX12_keepClause_6 (by first | rfl | assumption | (repeat first | assumption | rfl | refine aG_n ?_ rfl rfl)) ?_
  refine wp_imul (pc := 7) dX12_keepClause_7 ?_
  refine wp_iload_n (pc := 8) dX12_keepClause_8 (by first | rfl | assumption | (repeat first | assumption | rfl | refine aG_n ?_ rfl rfl)) ?_
  refine wp_iadd (pc := 9) dX12_keepClause_9 ?_
  refine wp_iload_n (pc := 10) dX12_keepClause_10 (by first | rfl | assumption | (repeat first | assumption | rfl | refine aG_n ?_ rfl rfl)) ?_
  refine wp_iast (pc := 11) dX12_keepClause_11 (by first | rfl | assumption | exact sh_house (by omega) | exact sh_wish (by omega) | exact sh_wor (by omega) | exact sh_bar (by omega) | exact sh_term (by omega) | exact sh_sheet (by omega) | exact sh_items (by omega) | exact sh_sums (by omega)) (by rw [e12]; exact vp_in_nI (by omega) (by decide)) ?_
  refine wp_aload_n (pc := 12) dX12_keepClause_12 (by first | rfl | assumption | (repeat first | assumption | rfl | refine aG_n ?_ rfl rfl)) ?_
  refine wp_getR (pc := 13) dX12_keepClause_13 fl_12_31 (by first | rfl | assumption | exact sh_house (by omega) | exact sh_wish (by omega) | exact sh_wor (by omega) | exact sh_bar (by omega) | exact sh_term (by omega) | exact sh_sheet (by omega) | exact sh_items (by omega) | exact sh_sums (by omega)) rfl ?_
  refine wp_bipush (pc := 16) (v := 12) dX12_keepClause_16 (by decide) ?_
  refine wp_iload_n (pc := 18) dX12_keepClause_18 (by first | rfl | assumption | (repeat first | assumption | rfl | refine aG_n ?_ rfl rfl)) ?_
  refine wp_imul (pc := 19) dX12_keepClause_19 ?_
  refine wp_iload_n (pc := 20) dX12_keepClause_20 (by first | rfl | assumption | (repeat first | assumption | rfl | refine aG_n ?_ rfl rfl)) ?_
  refine wp_iadd (pc := 21) dX12_keepClause_21 ?_
  refine wp_iload (pc := 22) dX12_keepClause_22 (by first | rfl | assumption | (repeat first | assumption | rfl | refine aG_n ?_ rfl rfl)) ?_
  refine wp_iast (pc := 24) dX12_keepClause_24 (by first | rfl | assumption | exact sh_house (by omega) | exact sh_wish (by omega) | exact sh_wor (by omega) | exact sh_bar (by omega) | exact sh_term (by omega) | exact sh_sheet (by omega) | exact sh_items (by omega) | exact sh_sums (by omega)) (by rw [e12]; exact vp_in_nI (by omega) (by decide)) ?_
  refine wp_aload_n (pc := 25) dX12_keepClause_25 (by first | rfl | assumption | (repeat first | assumption | rfl | refine aG_n ?_ rfl rfl)) ?_
  refine wp_getR (pc := 26) dX12_keepClause_26 fl_12_34 (by first | rfl | assumption | exact sh_house (by omega) | exact sh_wish (by omega) | exact sh_wor (by omega) | exact sh_bar (by omega) | exact sh_term (by omega) | exact sh_sheet (by omega) | exact sh_items (by omega) | exact sh_sums (by omega)) rfl ?_
  refine wp_bipush (pc := 29) (v := 12) dX12_keepClause_29 (by decide) ?_
  refine wp_iload_n (pc := 31) dX12_keepClause_31 (by first | rfl | assumption | (repeat first | assumption | rfl | refine aG_n ?_ rfl rfl)) ?_
  refine wp_imul (pc := 32) dX12_keepClause_32 ?_
  refine wp_iload_n (pc := 33) dX12_keepClause_33 (by first | rfl | assumption | (repeat first | assumption | rfl | refine aG_n ?_ rfl rfl)) ?_
  refine wp_iadd (pc := 34) dX12_keepClause_34 ?_
  refine wp_iload (pc := 35) dX12_keepClause_35 (by first | rfl | assumption | (repeat first | assumption | rfl | refine aG_n ?_ rfl rfl)) ?_
  refine wp_zast (pc := 37) dX12_keepClause_37 (by first | rfl | assumption | exact sh_house (by omega) | exact sh_wish (by omega) | exact sh_wor (by omega) | exact sh_bar (by omega) | exact sh_term (by omega) | exact sh_sheet (by omega) | exact sh_items (by omega) | exact sh_sums (by omega)) (by rw [e12]; exact vp_in_nI (by omega) (by decide)) (show vp_nar .boolean b = b by rcases hb with z | z <;> rw [z] <;> rfl) ?_
  refine wp_aload_n (pc := 38) dX12_keepClause_38 (by first | rfl | assumption | (repeat first | assumption | rfl | refine aG_n ?_ rfl rfl)) ?_
  refine wp_getR (pc := 39) dX12_keepClause_39 fl_12_25 (by first | rfl | assumption | exact sh_house (by omega) | exact sh_wish (by omega) | exact sh_wor (by omega) | exact sh_bar (by omega) | exact sh_term (by omega) | exact sh_sheet (by omega) | exact sh_items (by omega) | exact sh_sums (by omega)) rfl ?_
  refine wp_iload_n (pc := 42) dX12_keepClause_42 (by first | rfl | assumption | (repeat first | assumption | rfl | refine aG_n ?_ rfl rfl)) ?_
  refine wp_iload_n (pc := 43) dX12_keepClause_43 (by first | rfl | assumption | (repeat first | assumption | rfl | refine aG_n ?_ rfl rfl)) ?_
  refine wp_iconst (pc := 44) (v := 1) dX12_keepClause_44 (by decide) ?_
  refine wp_iadd (pc := 45) dX12_keepClause_45 ?_
  refine wp_iast (pc := 46) dX12_keepClause_46 (by first | rfl | assumption | exact sh_house (by omega) | exact sh_wish (by omega) | exact sh_wor (by omega) | exact sh_bar (by omega) | exact sh_term (by omega) | exact sh_sheet (by omega) | exact sh_items (by omega) | exact sh_sums (by omega)) (vp_in_nI (by omega) (by decide)) ?_
  refine wp_vreturn (pc := 47) dX12_keepClause_47 rfl ?_
  rw [ci, e12, c12, nI_1]; exact k
/-- t clauses of a house kept -/
def KC (M M' : MM) (i t : Nat) (S N B : Nat → Int32) : Prop := (∀ c, ¬ (92 ≤ c ∧ c ≤ 95) → M' c = M c) ∧ (∀ h, h ≠ i → M' 92 h = M 92 h) ∧ (0 < t → M' 92 i = nI t) ∧ (∀ y, ¬ (12 * i ≤ y ∧ y < 12 * i + 12) → M' 93 y = M 93 y ∧ M' 94 y = M 94 y ∧ M' 95 y = M 95 y) ∧ ∀ q, q < t → M' 93 (12 * i + q) = S q ∧ M' 94 (12 * i + q) = N q ∧ M' 95 (12 * i + q) = B q
theorem KC_0 {M : MM} {i : Nat} {S N B : Nat → Int32} : KC M M i 0 S N B := ⟨fun _ _ => rfl, fun _ _ => rfl, fun z => absurd z (by omega), fun _ _ => ⟨rfl, rfl, rfl⟩, fun q hq => absurd hq (by omega)⟩
theorem KC_s {M M' : MM} {i t : Nat} {S N B : Nat → Int32} (ht : t < 12) (h : KC M M' i t S N B) : KC M (kcM M' i t (S t) (N t) (B t)) i (t + 1) S N B := by
  obtain ⟨a1, a2, a3, a4, a5⟩ := h
  unfold kcM
  refine ⟨fun c hc => ?_, fun h hh => ?_, fun _ => ?_, fun y hy => ?_, fun q hq => ?_⟩
  · simp (disch := omega) only [up2_ne]; exact a1 c hc
  · simp (disch := omega) only [up2_ne, up2_p]; exact a2 h hh
  · exact up2_at
  · simp (disch := omega) only [up2_ne, up2_p]; exact a4 y hy
  · by_cases e : q = t
    · subst e
      simp (disch := omega) only [up2_ne, up2_p, up2_at]
      exact ⟨trivial, trivial, trivial⟩
    · simp (disch := omega) only [up2_ne, up2_p]
      exact a5 q (by omega)
end WSH
/-! a new WISH keeps all that must hold -/
theorem gRow_f {M M' : MM} : ∀ (f i g : Nat), (∀ j, j < f → g.testBit j = true → M' (57 + 4 * (i + j)) = M (57 + 4 * (i + j)) ∧ M' (58 + 4 * (i + j)) = M (58 + 4 * (i + j))) → gRow M' i g f = gRow M i g f
  | 0, _, _, _ => rfl
  | f + 1, i, g, h => by
    have ih := gRow_f (M := M) (M' := M') f (i + 1) (g / 2) (fun j hj hb => by
      have := h (j + 1) (by omega) (by rw [Nat.testBit_succ]; exact hb)
      rw [show i + 1 + j = i + (j + 1) by omega]; exact this)
    unfold gRow
    rw [ih]
    by_cases c : g % 2 = 1
    · have h0 := h 0 (by omega) (by rw [Nat.testBit_zero]; exact decide_eq_true c)
      rw [Nat.add_zero] at h0
      rw [h0.1, h0.2]
    · simp only [if_neg c]
theorem and_or0 : ∀ g, g < 16 → ∀ st, st < 16 → ∀ i, i < 4 → g &&& (st ||| 2 ^ i) = 0 → g &&& st = 0 ∧ g.testBit i = false := by decide +kernel
theorem wF_p {M M' : MM} {i : Nat} {s : Int32} : ∀ n, (∀ k, k < n → M' 93 (12 * i + k) = M 93 (12 * i + k) ∧ M' 94 (12 * i + k) = M 94 (12 * i + k)) → wF M' i s n = wF M i s n
  | 0, _ => rfl
  | n + 1, h => by
    unfold wF
    rw [wF_p n (fun k hk => h k (by omega)), (h n (by omega)).1, (h n (by omega)).2]
theorem bF_p {M M' : MM} {i : Nat} {s : Int32} : ∀ n, (∀ k, k < n → M' 93 (12 * i + k) = M 93 (12 * i + k) ∧ M' 95 (12 * i + k) = M 95 (12 * i + k)) → bF M' i s n = bF M i s n
  | 0, _ => rfl
  | n + 1, h => by
    unfold bF
    rw [bF_p n (fun k hk => h k (by omega)), (h n (by omega)).1, (h n (by omega)).2]
theorem Inv_wish {μ μ' : Mm} {i n st : Nat} (hI : Inv μ) (hi : i < 4) (hn : n ≤ 12) (h11 : μ.1 11 1 = nI st) (hst : st < 16) (hR : μ'.2 74 = μ.2 74) (hs : ∀ c j, ¬ scr c j → ¬ ((56 + 4 * i ≤ c ∧ c ≤ 58 + 4 * i) ∨ (c = 11 ∧ j = 1) ∨ (92 ≤ c ∧ c ≤ 95) ∨ (c = 2 ∧ j = 1) ∨ (c = 86 ∧ j = 10)) → μ'.1 c j = μ.1 c j) (hT : I_tape μ'.1) (h11' : μ'.1 11 1 = nI (st ||| 2 ^ i)) (hw : ∀ h, h < 4 → h ≠ i → μ'.1 92 h = μ.1 92 h ∧ ∀ k, k < 12 → μ'.1 93 (12 * h + k) = μ.1 93 (12 * h + k) ∧ μ'.1 94 (12 * h + k) = μ.1 94 (12 * h + k) ∧ μ'.1 95 (12 * h + k) = μ.1 95 (12 * h + k)) (w1 : μ'.1 (56 + 4 * i) 0 = nI n) (w2 : μ'.1 92 i = nI n) (w3 : ∀ k, k < n → (∃ l, 0 < l ∧ l < 64 ∧ μ'.1 93 (12 * i + k) = nI l) ∧ inR (μ'.1 94 (12 * i + k)) (-99) 99 ∧ (μ'.1 95 (12 * i + k) = 0 ∨ μ'.1 95 (12 * i + k) = 1)) (w4 : ∀ s, s < 64 → μ'.1 (57 + 4 * i) s = wF μ'.1 i (nI s) n ∧ μ'.1 (58 + 4 * i) s = (if bF μ'.1 i (nI s) n = true then 1 else 0)) : Inv μ' := by
  obtain ⟨M, R⟩ := μ
  obtain ⟨M', R'⟩ := μ'
  dsimp only at *
  have hr : ∀ c : Nat, ¬ ((4 ≤ c ∧ c ≤ 10) ∨ c = 29 ∨ c = 30 ∨ c = 33 ∨ c = 71 ∨ c = 72 ∨ (97 ≤ c ∧ c ≤ 99) ∨ (103 ≤ c ∧ c ≤ 110) ∨ (120 ≤ c ∧ c ≤ 122) ∨ c = 86 ∨ c = 2 ∨ c = 11 ∨ (92 ≤ c ∧ c ≤ 95) ∨ (56 + 4 * i ≤ c ∧ c ≤ 58 + 4 * i)) → M' c = M c := fun c hc => funext fun j => hs c j (by unfold scr; omega) (by omega)
  have h86 : ∀ j, ¬ (j = 11 ∨ j = 29 ∨ j = 31 ∨ j = 10) → M' 86 j = M 86 j := fun j hj => hs 86 j (by unfold scr; omega) (by omega)
  obtain ⟨i1, i2, i3, i4, i5, i6, i7, i8, i9, i10⟩ := hI
  refine ⟨own_c (hr _ (by omega)) (fun q hq => congrFun (hr _ (by omega)) 0) i1, coin_c (hr _ (by omega)) (fun q hq => congrFun (hr _ (by omega)) 1) i2, lev_c ⟨hr _ (by omega), hr _ (by omega), hr _ (by omega)⟩ (fun q hq => ⟨congrFun (hr _ (by omega)) 2, congrFun (hr _ (by omega)) 3, congrFun (hr _ (by omega)) 4⟩) i3, ?_, hT, talk_c ⟨hr _ (by omega), hr _ (by omega), hr _ (by omega), hr _ (by omega), hr _ (by omega)⟩ ⟨hr _ (by omega), hr _ (by omega), hr _ (by omega)⟩ (fun j a b => h86 _ (by omega)) (fun _ => ⟨hr _ (by omega), hr _ (by omega)⟩) hR i6, led_c (congrFun (hr _ (by omega)) 2) (h86 _ (by omega)) (fun q hq => hr _ (by omega)) (fun c a b => hr _ (by omega)) ⟨hr _ (by omega), hr _ (by omega)⟩ i7, row_c (hr _ (by omega)) (hr _ (by omega)) i8, sheet_c ⟨hr _ (by omega), hr _ (by omega), hr _ (by omega)⟩ (fun q hq => ⟨hr _ (by omega), hr _ (by omega)⟩) i9, ?_⟩
  · intro h hh
    by_cases e : h = i
    · subst e
      exact ⟨n, hn, w1, w2, w3, w4⟩
    · obtain ⟨m, a1, a2, a3, a4, a5⟩ := i4 h hh
      obtain ⟨b1, b2⟩ := hw h hh e
      refine ⟨m, a1, ?_, b1.trans a3, fun k hk => ?_, fun s hs2 => ?_⟩
      · show M' (56 + 4 * h) 0 = nI m
        rw [hr _ (by omega)]; exact a2
      · obtain ⟨d1, d2, d3⟩ := b2 k (by omega)
        dsimp only; rw [d1, d2, d3]; exact a4 k hk
      · dsimp only
        rw [hr (57 + 4 * h) (by omega), hr (58 + 4 * h) (by omega), wF_p (M := M) m (fun k hk => ⟨(b2 k (by omega)).1, (b2 k (by omega)).2.1⟩), bF_p (M := M) m (fun k hk => ⟨(b2 k (by omega)).1, (b2 k (by omega)).2.2⟩)]
        exact a5 s hs2
  · obtain ⟨st', a1, a2, a3⟩ := i10
    obtain rfl : st' = st := (nI_eq (by omega) (by omega)).mp (a2.symm.trans h11)
    refine ⟨st' ||| 2 ^ i, (or_b4 i hi st' hst).2, h11', fun g hg hg2 ha p hp => ?_⟩
    obtain ⟨x1, x2⟩ := and_or0 g hg2 st' hst i hi ha
    dsimp only
    rw [hr (13 + g) (by omega), gRow_f (M := M) 4 0 g (fun j hj hb => ?_)]
    · exact a3 g hg hg2 x1 p hp
    · have : j ≠ i := fun z => by rw [z, x2] at hb; cases hb
      rw [Nat.zero_add]
      exact ⟨hr _ (by omega), hr _ (by omega)⟩

/-! VALUES of groups: the class's table -/
theorem gMx_i (x y : Int32) : (gMx x y).toInt = max x.toInt y.toInt := by
  unfold gMx
  split
  · rename_i h; rw [i_lt] at h; omega
  · rename_i h; rw [i_lt] at h; omega
def smB (a n : Nat) : Bool := (List.range n).all fun x => (List.range 64).all fun q => cond (Nat.beq (Nat.land q (a + x)) q) ((List.range 64).all fun r => cond (Nat.beq (Nat.land r (a + x)) r && Nat.blt r q) (Nat.ble r (Nat.land (q - 1) (a + x))) true) true
theorem smB_0 : smB 0 32 = true := by decide +kernel
theorem smB_1 : smB 32 32 = true := by decide +kernel
theorem smB_of {a n x q r : Nat} (h : smB a n = true) (hx : x < n) (hq : q < 64) (hr : r < 64) (h1 : q &&& (a + x) = q) (h2 : r &&& (a + x) = r) (h3 : r < q) : r ≤ (q - 1) &&& (a + x) := by
  unfold smB at h
  have e1 := List.all_eq_true.mp h x (List.mem_range.mpr hx)
  have e2 := List.all_eq_true.mp e1 q (List.mem_range.mpr hq)
  have b1 : Nat.beq (Nat.land q (a + x)) q = true := by rw [show Nat.land q (a + x) = q from h1]; exact Nat.beq_refl q
  rw [b1] at e2
  have e3 := List.all_eq_true.mp e2 r (List.mem_range.mpr hr)
  have b2 : Nat.beq (Nat.land r (a + x)) r = true := by rw [show Nat.land r (a + x) = r from h2]; exact Nat.beq_refl r
  have b3 : Nat.blt r q = true := Nat.ble_eq.mpr h3
  rw [b2, b3] at e3
  exact Nat.ble_eq.mp e3
theorem sub_max {pool q r : Nat} (hp : pool < 64) (hq : q < 64) (hs : q &&& pool = q) (hr : r < q) (hrs : r &&& pool = r) : r ≤ (q - 1) &&& pool := by
  by_cases c : pool < 32
  · have := smB_of (x := pool) smB_0 c hq (by omega) (by rw [Nat.zero_add]; exact hs) (by rw [Nat.zero_add]; exact hrs) hr
    rwa [Nat.zero_add] at this
  · have e : 32 + (pool - 32) = pool := by omega
    have := smB_of (x := pool - 32) smB_1 (by omega) hq (by omega) (by rw [e]; exact hs) (by rw [e]; exact hrs) hr
    rwa [e] at this
theorem sub_nx : ∀ pool, pool < 64 → ∀ q, q < 64 → 0 < q → (nI q - 1) &&& nI pool = nI ((q - 1) &&& pool) ∧ ((q - 1) &&& pool) < q ∧ ((q - 1) &&& pool) &&& pool = (q - 1) &&& pool := by decide +kernel
section GPT
variable {w b o : Nat → Int32} {pool : Nat}
theorem gPt_gap {r0 : Nat} : ∀ r, r0 ≤ r → (∀ s, s ≤ r → r0 < s → ¬ s &&& pool = s) → gPt w b o pool r = gPt w b o pool r0
  | 0, h, _ => by rw [Nat.le_zero.mp h]
  | r + 1, h, hs => by
    by_cases e : r0 = r + 1
    · rw [e]
    · rw [← gPt_gap r (by omega) (fun s h1 h2 => hs s (by omega) h2)]
      show (if _ then _ else gPt w b o pool r) = _
      rw [if_neg (fun z => hs (r + 1) (Nat.le_refl _) (by omega) z.1)]
theorem gPt_base : ∀ p, (o pool).toInt ≤ (gPt w b o pool p).toInt
  | 0 => Int.le_refl _
  | p + 1 => by
    have := gPt_base p
    unfold gPt
    split
    · rw [gMx_i]; omega
    · exact this
theorem gPt_c {w' b' o' : Nat → Int32} (hp : pool < 64) (hw : ∀ s, s < 64 → w' s = w s ∧ b' s = b s ∧ o' s = o s) : ∀ p, p < 64 → gPt w' b' o' pool p = gPt w b o pool p
  | 0, _ => (hw pool hp).2.2
  | p + 1, h => by
    unfold gPt
    rw [gPt_c hp hw p (by omega), (hw (p + 1) h).1, (hw (p + 1) h).2.1, (hw (pool ^^^ (p + 1)) (x64 hp h)).2.2]
end GPT
section MOST
variable {X : aX} {μ : Mm} {Q : Option Value → Mm → Prop} {W O pool : Nat}
theorem l_most (hW : Wsh W) (hO : shp[O]? = some (.inr (.inl (0, 64)))) (hp : pool < 64) (k : Q (some (.int (gPt (μ.1 (W + 1)) (μ.1 (W + 2)) (μ.1 O) pool pool))) μ) : ∀ (f q : Nat), q ≤ f → q < 64 → q &&& pool = q → ∀ m : Int32, gMx m (gPt (μ.1 (W + 1)) (μ.1 (W + 2)) (μ.1 O) pool q) = gPt (μ.1 (W + 1)) (μ.1 (W + 2)) (μ.1 O) pool pool → (μ.1 O pool).toInt ≤ m.toInt → ∀ L : aL, aL_get L 0 = some (.ref W) → aL_get L 1 = some (.ref O) → aL_get L 2 = some (.int (nI pool)) → aL_get L 3 = some (.int m) → aL_get L 4 = some (.int (nI q)) → WP X mX0_mostParted 7 L [] μ Q := by
  obtain ⟨w1, w2, w3⟩ := id hW
  have fin : ∀ m : Int32, gMx m (gPt (μ.1 (W + 1)) (μ.1 (W + 2)) (μ.1 O) pool 0) = gPt (μ.1 (W + 1)) (μ.1 (W + 2)) (μ.1 O) pool pool → (μ.1 O pool).toInt ≤ m.toInt → m = gPt (μ.1 (W + 1)) (μ.1 (W + 2)) (μ.1 O) pool pool := by
    intro m h1 h2
    rw [← h1]
    refine Int32.toInt_inj.mp ?_
    rw [gMx_i]
    show _ = max m.toInt (μ.1 O pool).toInt
    omega
  intro f
  induction f with
  | zero =>
    intro q hqf hq hs m h1 h2 L g0 g1 g2 g3 g4
    obtain rfl : q = 0 := by omega
    refine wp_iload (pc := 7) dX0_mostParted_7 (by first | rfl | assumption | (repeat first | assumption | rfl | refine aG_n ?_ rfl rfl)) ?_
    refine wp_if_le (pc := 9) (tgt := 63) dX0_mostParted_9 rfl (fun _ => ?_) (fun q => absurd (by decide) q)
    refine wp_iload_n (pc := 63) dX0_mostParted_63 (by first | rfl | assumption | (repeat first | assumption | rfl | refine aG_n ?_ rfl rfl)) ?_
    refine wp_ireturn (pc := 64) dX0_mostParted_64 rfl (by first | rfl | decide | assumption) ?_
    exact qEq (fin m h1 h2) k
  | succ f ih =>
    intro q hqf hq hs m h1 h2 L g0 g1 g2 g3 g4
    by_cases q0 : q = 0
    · subst q0
      refine wp_iload (pc := 7) dX0_mostParted_7 (by first | rfl | assumption | (repeat first | assumption | rfl | refine aG_n ?_ rfl rfl)) ?_
      refine wp_if_le (pc := 9) (tgt := 63) dX0_mostParted_9 rfl (fun _ => ?_) (fun q => absurd (by decide) q)
      refine wp_iload_n (pc := 63) dX0_mostParted_63 (by first | rfl | assumption | (repeat first | assumption | rfl | refine aG_n ?_ rfl rfl)) ?_
      refine wp_ireturn (pc := 64) dX0_mostParted_64 rfl (by first | rfl | decide | assumption) ?_
      exact qEq (fin m h1 h2) k
    · have qp : 0 < q := Nat.pos_of_ne_zero q0
      obtain ⟨s1, s2, s3⟩ := sub_nx pool hp q hq qp
      have cq : (nI q).toNatClampNeg = q := nI_clamp (by omega)
      have ex : nI pool ^^^ nI q = nI (pool ^^^ q) := xor6 hp hq
      have hx := x64 hp hq
      have cx : (nI (pool ^^^ q)).toNatClampNeg = pool ^^^ q := nI_clamp (by omega)
      obtain ⟨q1, rfl⟩ : ∃ q1, q = q1 + 1 := ⟨q - 1, by omega⟩
      have egap : gPt (μ.1 (W + 1)) (μ.1 (W + 2)) (μ.1 O) pool q1 = gPt (μ.1 (W + 1)) (μ.1 (W + 2)) (μ.1 O) pool (q1 &&& pool) := by
        refine gPt_gap q1 (by have := s2; simp only [Nat.add_sub_cancel] at this; omega) (fun s hs1 hs2 z => ?_)
        have := sub_max (r := s) hp hq hs (by omega) z
        simp only [Nat.add_sub_cancel] at this
        omega
      simp only [Nat.add_sub_cancel] at s1 s2 s3
      by_cases c : ¬ μ.1 O (pool ^^^ (q1 + 1)) = nov ∧ μ.1 (W + 2) (q1 + 1) = 0
      · have eg : gPt (μ.1 (W + 1)) (μ.1 (W + 2)) (μ.1 O) pool (q1 + 1) = gMx (gPt (μ.1 (W + 1)) (μ.1 (W + 2)) (μ.1 O) pool q1) (μ.1 O (pool ^^^ (q1 + 1)) + μ.1 (W + 1) (q1 + 1)) := if_pos ⟨hs, c.1, c.2⟩
        have h1' : gMx (gMx m (μ.1 O (pool ^^^ (q1 + 1)) + μ.1 (W + 1) (q1 + 1))) (gPt (μ.1 (W + 1)) (μ.1 (W + 2)) (μ.1 O) pool (q1 &&& pool)) = gPt (μ.1 (W + 1)) (μ.1 (W + 2)) (μ.1 O) pool pool := by
          rw [← h1, eg, ← egap]
          refine Int32.toInt_inj.mp ?_
          simp only [gMx_i]; omega
        refine wp_iload (pc := 7) dX0_mostParted_7 (by first | rfl | assumption | (repeat first | assumption | rfl | refine aG_n ?_ rfl rfl)) ?_
        refine wp_if_le (pc := 9) (tgt := 63) dX0_mostParted_9 rfl (fun q => absurd q (nI_nle (by omega) (by omega))) (fun _ => ?_)
        refine wp_aload_n (pc := 12) dX0_mostParted_12 (by first | rfl | assumption | (repeat first | assumption | rfl | refine aG_n ?_ rfl rfl)) ?_
        refine wp_iload_n (pc := 13) dX0_mostParted_13 (by first | rfl | assumption | (repeat first | assumption | rfl | refine aG_n ?_ rfl rfl)) ?_
        refine wp_iload (pc := 14) dX0_mostParted_14 (by first | rfl | assumption | (repeat first | assumption | rfl | refine aG_n ?_ rfl rfl)) ?_
        refine wp_ixor (pc := 16) dX0_mostParted_16 ?_
        refine wp_iald (pc := 17) dX0_mostParted_17 (by first | rfl | assumption | exact sh_house (by omega) | exact sh_wish (by omega) | exact sh_wor (by omega) | exact sh_bar (by omega) | exact sh_term (by omega) | exact sh_sheet (by omega) | exact sh_items (by omega) | exact sh_sums (by omega)) (by rw [ex]; exact vp_in_nI (by omega) (by decide)) ?_
        refine wp_istore (pc := 18) dX0_mostParted_18 (by decide) ?_
        refine wp_iload (pc := 20) dX0_mostParted_20 (by first | rfl | assumption | (repeat first | assumption | rfl | refine aG_n ?_ rfl rfl)) ?_
        refine wp_ldc (pc := 22) dX0_mostParted_22 cs_0_31 ?_
        refine wp_icmp_eq (pc := 24) (tgt := 52) dX0_mostParted_24 rfl (fun q => absurd q (by rw [ex, cx]; exact c.1)) (fun _ => ?_)
        refine wp_aload_n (pc := 27) dX0_mostParted_27 (by first | rfl | assumption | (repeat first | assumption | rfl | refine aG_n ?_ rfl rfl)) ?_
        refine wp_getR (pc := 28) dX0_mostParted_28 fl_0_81 (by first | rfl | assumption | exact sh_house (by omega) | exact sh_wish (by omega) | exact sh_wor (by omega) | exact sh_bar (by omega) | exact sh_term (by omega) | exact sh_sheet (by omega) | exact sh_items (by omega) | exact sh_sums (by omega)) rfl ?_
        refine wp_iload (pc := 31) dX0_mostParted_31 (by first | rfl | assumption | (repeat first | assumption | rfl | refine aG_n ?_ rfl rfl)) ?_
        refine wp_zald (pc := 33) dX0_mostParted_33 (by first | rfl | assumption | exact sh_house (by omega) | exact sh_wish (by omega) | exact sh_wor (by omega) | exact sh_bar (by omega) | exact sh_term (by omega) | exact sh_sheet (by omega) | exact sh_items (by omega) | exact sh_sums (by omega)) (vp_in_nI (by omega) (by decide)) ?_
        refine wp_if_ne (pc := 34) (tgt := 52) dX0_mostParted_34 rfl (fun q => absurd (by rw [cq]; exact c.2) q) (fun _ => ?_)
        refine wp_iload_n (pc := 37) dX0_mostParted_37 (by first | rfl | assumption | (repeat first | assumption | rfl | refine aG_n ?_ rfl rfl)) ?_
        refine wp_iload (pc := 38) dX0_mostParted_38 (by first | rfl | assumption | (repeat first | assumption | rfl | refine aG_n ?_ rfl rfl)) ?_
        refine wp_aload_n (pc := 40) dX0_mostParted_40 (by first | rfl | assumption | (repeat first | assumption | rfl | refine aG_n ?_ rfl rfl)) ?_
        refine wp_getR (pc := 41) dX0_mostParted_41 fl_0_42 (by first | rfl | assumption | exact sh_house (by omega) | exact sh_wish (by omega) | exact sh_wor (by omega) | exact sh_bar (by omega) | exact sh_term (by omega) | exact sh_sheet (by omega) | exact sh_items (by omega) | exact sh_sums (by omega)) rfl ?_
        refine wp_iload (pc := 44) dX0_mostParted_44 (by first | rfl | assumption | (repeat first | assumption | rfl | refine aG_n ?_ rfl rfl)) ?_
        refine wp_iald (pc := 46) dX0_mostParted_46 (by first | rfl | assumption | exact sh_house (by omega) | exact sh_wish (by omega) | exact sh_wor (by omega) | exact sh_bar (by omega) | exact sh_term (by omega) | exact sh_sheet (by omega) | exact sh_items (by omega) | exact sh_sums (by omega)) (vp_in_nI (by omega) (by decide)) ?_
        refine wp_iadd (pc := 47) dX0_mostParted_47 ?_
        refine wp_max (pc := 48) dX0_mostParted_48 lk_0_85 rfl (by decide) (by decide) (by decide) ?_
        refine wp_istore_n (pc := 51) dX0_mostParted_51 (by decide) ?_
        refine wp_iload (pc := 52) dX0_mostParted_52 (by first | rfl | assumption | (repeat first | assumption | rfl | refine aG_n ?_ rfl rfl)) ?_
        refine wp_iconst (pc := 54) (v := 1) dX0_mostParted_54 (by decide) ?_
        refine wp_isub (pc := 55) dX0_mostParted_55 ?_
        refine wp_iload_n (pc := 56) dX0_mostParted_56 (by first | rfl | assumption | (repeat first | assumption | rfl | refine aG_n ?_ rfl rfl)) ?_
        refine wp_iand (pc := 57) dX0_mostParted_57 ?_
        refine wp_istore (pc := 58) dX0_mostParted_58 (by decide) ?_
        refine wp_goto (pc := 60) (tgt := 7) dX0_mostParted_60 rfl ?_
        skip
        rw [ex, cx, cq, s1]
        exact ih _ (by omega) (by omega) s3 _ h1' (by rw [gMx_i]; omega) _ (by first | rfl | assumption | (repeat first | assumption | rfl | refine aG_n ?_ rfl rfl)) (by first | rfl | assumption | (repeat first | assumption | rfl | refine aG_n ?_ rfl rfl)) (by first | rfl | assumption | (repeat first | assumption | rfl | refine aG_n ?_ rfl rfl)) (by first | rfl | assumption | (repeat first | assumption | rfl | refine aG_n ?_ rfl rfl)) (by first | rfl | assumption | (repeat first | assumption | rfl | refine aG_n ?_ rfl rfl))
      · have eg : gPt (μ.1 (W + 1)) (μ.1 (W + 2)) (μ.1 O) pool (q1 + 1) = gPt (μ.1 (W + 1)) (μ.1 (W + 2)) (μ.1 O) pool q1 := if_neg (fun z => c z.2)
        have h1' : gMx m (gPt (μ.1 (W + 1)) (μ.1 (W + 2)) (μ.1 O) pool (q1 &&& pool)) = gPt (μ.1 (W + 1)) (μ.1 (W + 2)) (μ.1 O) pool pool := by
          rw [← h1, eg, ← egap]
        by_cases c' : μ.1 O (pool ^^^ (q1 + 1)) = nov
        · refine wp_iload (pc := 7) dX0_mostParted_7 (by first | rfl | assumption | (repeat first | assumption | rfl | refine aG_n ?_ rfl rfl)) ?_
          refine wp_if_le (pc := 9) (tgt := 63) dX0_mostParted_9 rfl (fun q => absurd q (nI_nle (by omega) (by omega))) (fun _ => ?_)
          refine wp_aload_n (pc := 12) dX0_mostParted_12 (by first | rfl | assumption | (repeat first | assumption | rfl | refine aG_n ?_ rfl rfl)) ?_
          refine wp_iload_n (pc := 13) dX0_mostParted_13 (by first | rfl | assumption | (repeat first | assumption | rfl | refine aG_n ?_ rfl rfl)) ?_
          refine wp_iload (pc := 14) dX0_mostParted_14 (by first | rfl | assumption | (repeat first | assumption | rfl | refine aG_n ?_ rfl rfl)) ?_
          refine wp_ixor (pc := 16) dX0_mostParted_16 ?_
          refine wp_iald (pc := 17) dX0_mostParted_17 (by first | rfl | assumption | exact sh_house (by omega) | exact sh_wish (by omega) | exact sh_wor (by omega) | exact sh_bar (by omega) | exact sh_term (by omega) | exact sh_sheet (by omega) | exact sh_items (by omega) | exact sh_sums (by omega)) (by rw [ex]; exact vp_in_nI (by omega) (by decide)) ?_
          refine wp_istore (pc := 18) dX0_mostParted_18 (by decide) ?_
          refine wp_iload (pc := 20) dX0_mostParted_20 (by first | rfl | assumption | (repeat first | assumption | rfl | refine aG_n ?_ rfl rfl)) ?_
          refine wp_ldc (pc := 22) dX0_mostParted_22 cs_0_31 ?_
          refine wp_icmp_eq (pc := 24) (tgt := 52) dX0_mostParted_24 rfl (fun _ => ?_) (fun q => absurd (by rw [ex, cx]; exact c') q)
          refine wp_iload (pc := 52) dX0_mostParted_52 (by first | rfl | assumption | (repeat first | assumption | rfl | refine aG_n ?_ rfl rfl)) ?_
          refine wp_iconst (pc := 54) (v := 1) dX0_mostParted_54 (by decide) ?_
          refine wp_isub (pc := 55) dX0_mostParted_55 ?_
          refine wp_iload_n (pc := 56) dX0_mostParted_56 (by first | rfl | assumption | (repeat first | assumption | rfl | refine aG_n ?_ rfl rfl)) ?_
          refine wp_iand (pc := 57) dX0_mostParted_57 ?_
          refine wp_istore (pc := 58) dX0_mostParted_58 (by decide) ?_
          refine wp_goto (pc := 60) (tgt := 7) dX0_mostParted_60 rfl ?_
          skip
          rw [s1]
          exact ih _ (by omega) (by omega) s3 _ h1' h2 _ (by first | rfl | assumption | (repeat first | assumption | rfl | refine aG_n ?_ rfl rfl)) (by first | rfl | assumption | (repeat first | assumption | rfl | refine aG_n ?_ rfl rfl)) (by first | rfl | assumption | (repeat first | assumption | rfl | refine aG_n ?_ rfl rfl)) (by first | rfl | assumption | (repeat first | assumption | rfl | refine aG_n ?_ rfl rfl)) (by first | rfl | assumption | (repeat first | assumption | rfl | refine aG_n ?_ rfl rfl))
        · refine wp_iload (pc := 7) dX0_mostParted_7 (by first | rfl | assumption | (repeat first | assumption | rfl | refine aG_n ?_ rfl rfl)) ?_
          refine wp_if_le (pc := 9) (tgt := 63) dX0_mostParted_9 rfl (fun q => absurd q (nI_nle (by omega) (by omega))) (fun _ => ?_)
          refine wp_aload_n (pc := 12) dX0_mostParted_12 (by first | rfl | assumption | (repeat first | assumption | rfl | refine aG_n ?_ rfl rfl)) ?_
          refine wp_iload_n (pc := 13) dX0_mostParted_13 (by first | rfl | assumption | (repeat first | assumption | rfl | refine aG_n ?_ rfl rfl)) ?_
          refine wp_iload (pc := 14) dX0_mostParted_14 (by first | rfl | assumption | (repeat first | assumption | rfl | refine aG_n ?_ rfl rfl)) ?_
          refine wp_ixor (pc := 16) dX0_mostParted_16 ?_
          refine wp_iald (pc := 17) dX0_mostParted_17 (by first | rfl | assumption | exact sh_house (by omega) | exact sh_wish (by omega) | exact sh_wor (by omega) | exact sh_bar (by omega) | exact sh_term (by omega) | exact sh_sheet (by omega) | exact sh_items (by omega) | exact sh_sums (by omega)) (by rw [ex]; exact vp_in_nI (by omega) (by decide)) ?_
          refine wp_istore (pc := 18) dX0_mostParted_18 (by decide) ?_
          refine wp_iload (pc := 20) dX0_mostParted_20 (by first | rfl | assumption | (repeat first | assumption | rfl | refine aG_n ?_ rfl rfl)) ?_
          refine wp_ldc (pc := 22) dX0_mostParted_22 cs_0_31 ?_
          refine wp_icmp_eq (pc := 24) (tgt := 52) dX0_mostParted_24 rfl (fun q => absurd q (by rw [ex, cx]; exact c')) (fun _ => ?_)
          refine wp_aload_n (pc := 27) dX0_mostParted_27 (by first | rfl | assumption | (repeat first | assumption | rfl | refine aG_n ?_ rfl rfl)) ?_
          refine wp_getR (pc := 28) dX0_mostParted_28 fl_0_81 (by first | rfl | assumption | exact sh_house (by omega) | exact sh_wish (by omega) | exact sh_wor (by omega) | exact sh_bar (by omega) | exact sh_term (by omega) | exact sh_sheet (by omega) | exact sh_items (by omega) | exact sh_sums (by omega)) rfl ?_
          refine wp_iload (pc := 31) dX0_mostParted_31 (by first | rfl | assumption | (repeat first | assumption | rfl | refine aG_n ?_ rfl rfl)) ?_
          refine wp_zald (pc := 33) dX0_mostParted_33 (by first | rfl | assumption | exact sh_house (by omega) | exact sh_wish (by omega) | exact sh_wor (by omega) | exact sh_bar (by omega) | exact sh_term (by omega) | exact sh_sheet (by omega) | exact sh_items (by omega) | exact sh_sums (by omega)) (vp_in_nI (by omega) (by decide)) ?_
          refine wp_if_ne (pc := 34) (tgt := 52) dX0_mostParted_34 rfl (fun _ => ?_) (fun q => absurd q (by rw [cq]; exact fun z => c ⟨c', z⟩))
          refine wp_iload (pc := 52) dX0_mostParted_52 (by first | rfl | assumption | (repeat first | assumption | rfl | refine aG_n ?_ rfl rfl)) ?_
          refine wp_iconst (pc := 54) (v := 1) dX0_mostParted_54 (by decide) ?_
          refine wp_isub (pc := 55) dX0_mostParted_55 ?_
          refine wp_iload_n (pc := 56) dX0_mostParted_56 (by first | rfl | assumption | (repeat first | assumption | rfl | refine aG_n ?_ rfl rfl)) ?_
          refine wp_iand (pc := 57) dX0_mostParted_57 ?_
          refine wp_istore (pc := 58) dX0_mostParted_58 (by decide) ?_
          refine wp_goto (pc := 60) (tgt := 7) dX0_mostParted_60 rfl ?_
          skip
          rw [s1]
          exact ih _ (by omega) (by omega) s3 _ h1' h2 _ (by first | rfl | assumption | (repeat first | assumption | rfl | refine aG_n ?_ rfl rfl)) (by first | rfl | assumption | (repeat first | assumption | rfl | refine aG_n ?_ rfl rfl)) (by first | rfl | assumption | (repeat first | assumption | rfl | refine aG_n ?_ rfl rfl)) (by first | rfl | assumption | (repeat first | assumption | rfl | refine aG_n ?_ rfl rfl)) (by first | rfl | assumption | (repeat first | assumption | rfl | refine aG_n ?_ rfl rfl))
theorem c_X0_mostParted (hW : Wsh W) (hO : shp[O]? = some (.inr (.inl (0, 64)))) (hp : pool < 64) (k : Q (some (.int (gPt (μ.1 (W + 1)) (μ.1 (W + 2)) (μ.1 O) pool pool))) μ) : WP X mX0_mostParted 0 (lv_args 0 [.ref W, .ref O, .int (nI pool)]) [] μ Q := by
  have cp : (nI pool).toNatClampNeg = pool := nI_clamp (by omega)
  refine wp_aload_n (pc := 0) dX0_mostParted_0 (by first | rfl | assumption | (repeat first | assumption | rfl | refine aG_n ?_ rfl rfl)) ?_
  refine wp_iload_n (pc := 1) dX0_mostParted_1 (by first | rfl | assumption | (repeat first | assumption | rfl | refine aG_n ?_ rfl rfl)) ?_
  refine wp_iald (pc := 2) dX0_mostParted_2 (by first | rfl | assumption | exact sh_house (by omega) | exact sh_wish (by omega) | exact sh_wor (by omega) | exact sh_bar (by omega) | exact sh_term (by omega) | exact sh_sheet (by omega) | exact sh_items (by omega) | exact sh_sums (by omega)) (vp_in_nI (by omega) (by decide)) ?_
  refine wp_istore_n (pc := 3) dX0_mostParted_3 (by decide) ?_
  refine wp_iload_n (pc := 4) dX0_mostParted_4 (by first | rfl | assumption | (repeat first | assumption | rfl | refine aG_n ?_ rfl rfl)) ?_
  refine wp_istore (pc := 5) dX0_mostParted_5 (by decide) ?_
  skip
  rw [cp]
  refine l_most hW hO hp k pool pool (Nat.le_refl _) hp (Nat.and_self _) _ (Int32.toInt_inj.mp ?_) (Int.le_refl _) _ (by first | rfl | assumption | (repeat first | assumption | rfl | refine aG_n ?_ rfl rfl)) (by first | rfl | assumption | (repeat first | assumption | rfl | refine aG_n ?_ rfl rfl)) (by first | rfl | assumption | (repeat first | assumption | rfl | refine aG_n ?_ rfl rfl)) (by first | rfl | assumption | (repeat first | assumption | rfl | refine aG_n ?_ rfl rfl)) (by first | rfl | assumption | (repeat first | assumption | rfl | refine aG_n ?_ rfl rfl))
  have := gPt_base (w := μ.1 (W + 1)) (b := μ.1 (W + 2)) (o := μ.1 O) (pool := pool) pool
  rw [gMx_i]; omega
theorem c_X0_worthOrNone {p : Nat} (hW : Wsh W) (hp : p < 64) (k : Q (some (.int (if μ.1 (W + 2) p = 0 then μ.1 (W + 1) p else nov))) μ) : WP X mX0_worthOrNone 0 (lv_args 0 [.ref W, .int (nI p)]) [] μ Q := by
  obtain ⟨w1, w2, w3⟩ := id hW
  have cp : (nI p).toNatClampNeg = p := nI_clamp (by omega)
  by_cases c : μ.1 (W + 2) p = 0
  · rw [if_pos c] at k
    refine wp_aload_n (pc := 0) dX0_worthOrNone_0 (by first | rfl | assumption | (repeat first | assumption | rfl | refine aG_n ?_ rfl rfl)) ?_
    refine wp_getR (pc := 1) dX0_worthOrNone_1 fl_0_81 (by first | rfl | assumption | exact sh_house (by omega) | exact sh_wish (by omega) | exact sh_wor (by omega) | exact sh_bar (by omega) | exact sh_term (by omega) | exact sh_sheet (by omega) | exact sh_items (by omega) | exact sh_sums (by omega)) rfl ?_
    refine wp_iload_n (pc := 4) dX0_worthOrNone_4 (by first | rfl | assumption | (repeat first | assumption | rfl | refine aG_n ?_ rfl rfl)) ?_
    refine wp_zald (pc := 5) dX0_worthOrNone_5 (by first | rfl | assumption | exact sh_house (by omega) | exact sh_wish (by omega) | exact sh_wor (by omega) | exact sh_bar (by omega) | exact sh_term (by omega) | exact sh_sheet (by omega) | exact sh_items (by omega) | exact sh_sums (by omega)) (vp_in_nI (by omega) (by decide)) ?_
    refine wp_if_eq (pc := 6) (tgt := 14) dX0_worthOrNone_6 rfl (fun _ => ?_) (fun q => absurd (by rw [cp]; exact c) q)
    refine wp_aload_n (pc := 14) dX0_worthOrNone_14 (by first | rfl | assumption | (repeat first | assumption | rfl | refine aG_n ?_ rfl rfl)) ?_
    refine wp_getR (pc := 15) dX0_worthOrNone_15 fl_0_42 (by first | rfl | assumption | exact sh_house (by omega) | exact sh_wish (by omega) | exact sh_wor (by omega) | exact sh_bar (by omega) | exact sh_term (by omega) | exact sh_sheet (by omega) | exact sh_items (by omega) | exact sh_sums (by omega)) rfl ?_
    refine wp_iload_n (pc := 18) dX0_worthOrNone_18 (by first | rfl | assumption | (repeat first | assumption | rfl | refine aG_n ?_ rfl rfl)) ?_
    refine wp_iald (pc := 19) dX0_worthOrNone_19 (by first | rfl | assumption | exact sh_house (by omega) | exact sh_wish (by omega) | exact sh_wor (by omega) | exact sh_bar (by omega) | exact sh_term (by omega) | exact sh_sheet (by omega) | exact sh_items (by omega) | exact sh_sums (by omega)) (vp_in_nI (by omega) (by decide)) ?_
    refine wp_ireturn (pc := 20) dX0_worthOrNone_20 rfl (by first | rfl | decide | assumption) ?_
    rw [cp]; exact k
  · rw [if_neg c] at k
    refine wp_aload_n (pc := 0) dX0_worthOrNone_0 (by first | rfl | assumption | (repeat first | assumption | rfl | refine aG_n ?_ rfl rfl)) ?_
    refine wp_getR (pc := 1) dX0_worthOrNone_1 fl_0_81 (by first | rfl | assumption | exact sh_house (by omega) | exact sh_wish (by omega) | exact sh_wor (by omega) | exact sh_bar (by omega) | exact sh_term (by omega) | exact sh_sheet (by omega) | exact sh_items (by omega) | exact sh_sums (by omega)) rfl ?_
    refine wp_iload_n (pc := 4) dX0_worthOrNone_4 (by first | rfl | assumption | (repeat first | assumption | rfl | refine aG_n ?_ rfl rfl)) ?_
    refine wp_zald (pc := 5) dX0_worthOrNone_5 (by first | rfl | assumption | exact sh_house (by omega) | exact sh_wish (by omega) | exact sh_wor (by omega) | exact sh_bar (by omega) | exact sh_term (by omega) | exact sh_sheet (by omega) | exact sh_items (by omega) | exact sh_sums (by omega)) (vp_in_nI (by omega) (by decide)) ?_
    refine wp_if_eq (pc := 6) (tgt := 14) dX0_worthOrNone_6 rfl (fun q => absurd q (by rw [cp]; exact c)) (fun _ => ?_)
    refine wp_ldc (pc := 9) dX0_worthOrNone_9 cs_0_31 ?_
    refine wp_goto (pc := 11) (tgt := 20) dX0_worthOrNone_11 rfl ?_
    refine wp_ireturn (pc := 20) dX0_worthOrNone_20 rfl (by first | rfl | decide | assumption) ?_
    exact k
/-- a row as fill makes it -/
def flR (M : MM) (g p : Nat) : Int32 := if g &&& (g - 1) = 0 then (if M (58 + 4 * nz g) p = 0 then M (57 + 4 * nz g) p else nov) else gPt (M (57 + 4 * nz g)) (M (58 + 4 * nz g)) (M (13 + (g &&& (g - 1)))) p p
theorem g_low : ∀ g, g < 16 → 0 < g → nz g < 4 ∧ g &&& (g - 1) < g := by decide +kernel
theorem l_fill {g : Nat} (hg0 : 0 < g) (hg : g < 16) (k : ∀ μ' : Mm, (∀ c, c ≠ 13 + g → μ'.1 c = μ.1 c) → μ'.2 = μ.2 → (∀ p, p < 64 → μ'.1 (13 + g) p = flR μ.1 g p) → Q none μ') : ∀ (f t : Nat), t + f = 64 → ∀ μ' : Mm, (∀ c, c ≠ 13 + g → μ'.1 c = μ.1 c) → μ'.2 = μ.2 → (∀ p, p < t → μ'.1 (13 + g) p = flR μ.1 g p) → ∀ L : aL, aL_get L 0 = some (.ref 11) → aL_get L 2 = some (.int (nI g)) → aL_get L 3 = some (.int (nI (g &&& (g - 1)))) → aL_get L 4 = some (.ref (56 + 4 * nz g)) → aL_get L 5 = some (.int (nI t)) → WP X mX0_fill 20 L [] μ' Q
  | 0, t, ht, μ', ho, hr, hs, L, g0, g2, g3, g4, g5 => by
    obtain rfl : t = 64 := by omega
    refine wp_iload (pc := 20) dX0_fill_20 (by first | rfl | assumption | (repeat first | assumption | rfl | refine aG_n ?_ rfl rfl)) ?_
    refine wp_bipush (pc := 22) (v := 64) dX0_fill_22 (by decide) ?_
    refine wp_icmp_ge (pc := 24) (tgt := 69) dX0_fill_24 rfl (fun _ => ?_) (fun q => absurd (nI_le (a := 64) (b := 64) (by omega) (by omega)) q)
    refine wp_vreturn (pc := 69) dX0_fill_69 rfl ?_
    exact k _ ho hr hs
  | f + 1, t, ht, μ', ho, hr, hs, L, g0, g2, g3, g4, g5 => by
    have ct : (nI t).toNatClampNeg = t := nI_clamp (by omega)
    obtain ⟨z4, rlt⟩ := g_low g hg hg0
    have hWz := Wsh_h z4
    have e57 : μ'.1 (56 + 4 * nz g + 1) = μ.1 (57 + 4 * nz g) := by rw [e561]; exact ho _ (by omega)
    have e58 : μ'.1 (56 + 4 * nz g + 2) = μ.1 (58 + 4 * nz g) := by rw [e562]; exact ho _ (by omega)
    have stp : ∀ v : Int32, v = flR μ.1 g t → (∀ c, c ≠ 13 + g → up2 μ'.1 (13 + g) t v c = μ.1 c) ∧ (∀ p, p < t + 1 → up2 μ'.1 (13 + g) t v (13 + g) p = flR μ.1 g p) := fun v hv => ⟨fun c hc => by rw [up2_ne hc]; exact ho c hc, fun p hp => by
      by_cases e : p = t
      · subst e; rw [up2_at]; exact hv
      · rw [up2_p (by omega)]; exact hs p (by omega)⟩
    by_cases c : g &&& (g - 1) = 0
    · have hv : (if μ'.1 (56 + 4 * nz g + 2) t = 0 then μ'.1 (56 + 4 * nz g + 1) t else nov) = flR μ.1 g t := by unfold flR; rw [if_pos c, e57, e58]
      obtain ⟨y1, y2⟩ := stp _ hv
      refine wp_iload (pc := 20) dX0_fill_20 (by first | rfl | assumption | (repeat first | assumption | rfl | refine aG_n ?_ rfl rfl)) ?_
      refine wp_bipush (pc := 22) (v := 64) dX0_fill_22 (by decide) ?_
      refine wp_icmp_ge (pc := 24) (tgt := 69) dX0_fill_24 rfl (fun q => absurd q (nI_ge (a := t) (b := 64) (by omega) (by omega))) (fun _ => ?_)
      refine wp_aload_n (pc := 27) dX0_fill_27 (by first | rfl | assumption | (repeat first | assumption | rfl | refine aG_n ?_ rfl rfl)) ?_
      refine wp_getR (pc := 28) dX0_fill_28 fl_0_11 (by first | rfl | assumption | exact sh_house (by omega) | exact sh_wish (by omega) | exact sh_wor (by omega) | exact sh_bar (by omega) | exact sh_term (by omega) | exact sh_sheet (by omega) | exact sh_items (by omega) | exact sh_sums (by omega)) rfl ?_
      refine wp_iload_n (pc := 31) dX0_fill_31 (by first | rfl | assumption | (repeat first | assumption | rfl | refine aG_n ?_ rfl rfl)) ?_
      refine wp_aald (pc := 32) dX0_fill_32 (by first | rfl | assumption | exact sh_house (by omega) | exact sh_wish (by omega) | exact sh_wor (by omega) | exact sh_bar (by omega) | exact sh_term (by omega) | exact sh_sheet (by omega) | exact sh_items (by omega) | exact sh_sums (by omega)) (vp_in_nI (by omega) (by decide)) (by decide) (el_sums hg) ?_
      refine wp_iload (pc := 33) dX0_fill_33 (by first | rfl | assumption | (repeat first | assumption | rfl | refine aG_n ?_ rfl rfl)) ?_
      refine wp_iload_n (pc := 35) dX0_fill_35 (by first | rfl | assumption | (repeat first | assumption | rfl | refine aG_n ?_ rfl rfl)) ?_
      refine wp_if_ne (pc := 36) (tgt := 49) dX0_fill_36 rfl (fun q => absurd (by rw [c]; rfl) q) (fun _ => ?_)
      refine wp_aload (pc := 39) dX0_fill_39 (by first | rfl | assumption | (repeat first | assumption | rfl | refine aG_n ?_ rfl rfl)) ?_
      refine wp_iload (pc := 41) dX0_fill_41 (by first | rfl | assumption | (repeat first | assumption | rfl | refine aG_n ?_ rfl rfl)) ?_
      refine wp_cS (pc := 43) dX0_fill_43 lk_0_73 rfl rfl rfl (c_X0_worthOrNone hWz (show t < 64 by omega) (aK_i ?_))
      refine wp_goto (pc := 46) (tgt := 62) dX0_fill_46 rfl ?_
      refine wp_iast (pc := 62) dX0_fill_62 (by first | rfl | assumption | exact sh_house (by omega) | exact sh_wish (by omega) | exact sh_wor (by omega) | exact sh_bar (by omega) | exact sh_term (by omega) | exact sh_sheet (by omega) | exact sh_items (by omega) | exact sh_sums (by omega)) (vp_in_nI (by omega) (by decide)) ?_
      refine wp_iinc (pc := 63) dX0_fill_63 (by decide) (by first | rfl | assumption | (repeat first | assumption | rfl | refine aG_n ?_ rfl rfl)) rfl ?_
      refine wp_goto (pc := 66) (tgt := 20) dX0_fill_66 rfl ?_
      skip
      rw [ct]
      exact l_fill hg0 hg k f (t + 1) (by omega) (up2 μ'.1 (13 + g) t _, μ'.2) y1 hr y2 _ (by first | rfl | assumption | (repeat first | assumption | rfl | refine aG_n ?_ rfl rfl)) (by first | rfl | assumption | (repeat first | assumption | rfl | refine aG_n ?_ rfl rfl)) (by first | rfl | assumption | (repeat first | assumption | rfl | refine aG_n ?_ rfl rfl)) (by first | rfl | assumption | (repeat first | assumption | rfl | refine aG_n ?_ rfl rfl)) (by rw [← nI_i1]; first | rfl | assumption | (repeat first | assumption | rfl | refine aG_n ?_ rfl rfl))
    · have hv : gPt (μ'.1 (56 + 4 * nz g + 1)) (μ'.1 (56 + 4 * nz g + 2)) (μ'.1 (13 + (g &&& (g - 1)))) t t = flR μ.1 g t := by unfold flR; rw [if_neg c, e57, e58, ho (13 + (g &&& (g - 1))) (by omega)]
      obtain ⟨y1, y2⟩ := stp _ hv
      refine wp_iload (pc := 20) dX0_fill_20 (by first | rfl | assumption | (repeat first | assumption | rfl | refine aG_n ?_ rfl rfl)) ?_
      refine wp_bipush (pc := 22) (v := 64) dX0_fill_22 (by decide) ?_
      refine wp_icmp_ge (pc := 24) (tgt := 69) dX0_fill_24 rfl (fun q => absurd q (nI_ge (a := t) (b := 64) (by omega) (by omega))) (fun _ => ?_)
      refine wp_aload_n (pc := 27) dX0_fill_27 (by first | rfl | assumption | (repeat first | assumption | rfl | refine aG_n ?_ rfl rfl)) ?_
      refine wp_getR (pc := 28) dX0_fill_28 fl_0_11 (by first | rfl | assumption | exact sh_house (by omega) | exact sh_wish (by omega) | exact sh_wor (by omega) | exact sh_bar (by omega) | exact sh_term (by omega) | exact sh_sheet (by omega) | exact sh_items (by omega) | exact sh_sums (by omega)) rfl ?_
      refine wp_iload_n (pc := 31) dX0_fill_31 (by first | rfl | assumption | (repeat first | assumption | rfl | refine aG_n ?_ rfl rfl)) ?_
      refine wp_aald (pc := 32) dX0_fill_32 (by first | rfl | assumption | exact sh_house (by omega) | exact sh_wish (by omega) | exact sh_wor (by omega) | exact sh_bar (by omega) | exact sh_term (by omega) | exact sh_sheet (by omega) | exact sh_items (by omega) | exact sh_sums (by omega)) (vp_in_nI (by omega) (by decide)) (by decide) (el_sums hg) ?_
      refine wp_iload (pc := 33) dX0_fill_33 (by first | rfl | assumption | (repeat first | assumption | rfl | refine aG_n ?_ rfl rfl)) ?_
      refine wp_iload_n (pc := 35) dX0_fill_35 (by first | rfl | assumption | (repeat first | assumption | rfl | refine aG_n ?_ rfl rfl)) ?_
      refine wp_if_ne (pc := 36) (tgt := 49) dX0_fill_36 rfl (fun _ => ?_) (fun q => absurd q (nI_ne0 (by omega) (by omega)))
      refine wp_aload (pc := 49) dX0_fill_49 (by first | rfl | assumption | (repeat first | assumption | rfl | refine aG_n ?_ rfl rfl)) ?_
      refine wp_aload_n (pc := 51) dX0_fill_51 (by first | rfl | assumption | (repeat first | assumption | rfl | refine aG_n ?_ rfl rfl)) ?_
      refine wp_getR (pc := 52) dX0_fill_52 fl_0_11 (by first | rfl | assumption | exact sh_house (by omega) | exact sh_wish (by omega) | exact sh_wor (by omega) | exact sh_bar (by omega) | exact sh_term (by omega) | exact sh_sheet (by omega) | exact sh_items (by omega) | exact sh_sums (by omega)) rfl ?_
      refine wp_iload_n (pc := 55) dX0_fill_55 (by first | rfl | assumption | (repeat first | assumption | rfl | refine aG_n ?_ rfl rfl)) ?_
      refine wp_aald (pc := 56) dX0_fill_56 (by first | rfl | assumption | exact sh_house (by omega) | exact sh_wish (by omega) | exact sh_wor (by omega) | exact sh_bar (by omega) | exact sh_term (by omega) | exact sh_sheet (by omega) | exact sh_items (by omega) | exact sh_sums (by omega)) (vp_in_nI (by omega) (by decide)) (by decide) (el_sums (show g &&& (g - 1) < 16 by omega)) ?_
      refine wp_iload (pc := 57) dX0_fill_57 (by first | rfl | assumption | (repeat first | assumption | rfl | refine aG_n ?_ rfl rfl)) ?_
      refine wp_cS (pc := 59) dX0_fill_59 lk_0_77 rfl rfl rfl (c_X0_mostParted hWz (sh_sums (by omega)) (show t < 64 by omega) (aK_i ?_))
      refine wp_iast (pc := 62) dX0_fill_62 (by first | rfl | assumption | exact sh_house (by omega) | exact sh_wish (by omega) | exact sh_wor (by omega) | exact sh_bar (by omega) | exact sh_term (by omega) | exact sh_sheet (by omega) | exact sh_items (by omega) | exact sh_sums (by omega)) (vp_in_nI (by omega) (by decide)) ?_
      refine wp_iinc (pc := 63) dX0_fill_63 (by decide) (by first | rfl | assumption | (repeat first | assumption | rfl | refine aG_n ?_ rfl rfl)) rfl ?_
      refine wp_goto (pc := 66) (tgt := 20) dX0_fill_66 rfl ?_
      skip
      rw [ct]
      exact l_fill hg0 hg k f (t + 1) (by omega) (up2 μ'.1 (13 + g) t _, μ'.2) y1 hr y2 _ (by first | rfl | assumption | (repeat first | assumption | rfl | refine aG_n ?_ rfl rfl)) (by first | rfl | assumption | (repeat first | assumption | rfl | refine aG_n ?_ rfl rfl)) (by first | rfl | assumption | (repeat first | assumption | rfl | refine aG_n ?_ rfl rfl)) (by first | rfl | assumption | (repeat first | assumption | rfl | refine aG_n ?_ rfl rfl)) (by rw [← nI_i1]; first | rfl | assumption | (repeat first | assumption | rfl | refine aG_n ?_ rfl rfl))
theorem c_X0_fill {g : Nat} (hg0 : 0 < g) (hg : g < 16) (k : ∀ μ' : Mm, (∀ c, c ≠ 13 + g → μ'.1 c = μ.1 c) → μ'.2 = μ.2 → (∀ p, p < 64 → μ'.1 (13 + g) p = flR μ.1 g p) → Q none μ') : WP X mX0_fill 0 (lv_args 0 [.ref 11, .ref 1, .int (nI g)]) [] μ Q := by
  obtain ⟨z4, rlt⟩ := g_low g hg hg0
  have er := (and_pred g (by omega) hg0).1
  refine wp_iload_n (pc := 0) dX0_fill_0 (by first | rfl | assumption | (repeat first | assumption | rfl | refine aG_n ?_ rfl rfl)) ?_
  refine wp_iload_n (pc := 1) dX0_fill_1 (by first | rfl | assumption | (repeat first | assumption | rfl | refine aG_n ?_ rfl rfl)) ?_
  refine wp_iconst (pc := 2) (v := 1) dX0_fill_2 (by decide) ?_
  refine wp_isub (pc := 3) dX0_fill_3 ?_
  refine wp_iand (pc := 4) dX0_fill_4 ?_
  refine wp_istore_n (pc := 5) dX0_fill_5 (by decide) ?_
  refine wp_aload_n (pc := 6) dX0_fill_6 (by first | rfl | assumption | (repeat first | assumption | rfl | refine aG_n ?_ rfl rfl)) ?_
  refine wp_iload_n (pc := 7) dX0_fill_7 (by first | rfl | assumption | (repeat first | assumption | rfl | refine aG_n ?_ rfl rfl)) ?_
  refine wp_cS (pc := 8) dX0_fill_8 lk_0_70 rfl rfl rfl (c_ntz hg0 (by omega) (aK_i ?_))
  refine wp_aald (pc := 11) dX0_fill_11 (by first | rfl | assumption | exact sh_house (by omega) | exact sh_wish (by omega) | exact sh_wor (by omega) | exact sh_bar (by omega) | exact sh_term (by omega) | exact sh_sheet (by omega) | exact sh_items (by omega) | exact sh_sums (by omega)) (vp_in_nI z4 (by decide)) (by decide) (el_house z4) ?_
  refine wp_getR (pc := 12) dX0_fill_12 fl_0_36 (by first | rfl | assumption | exact sh_house (by omega) | exact sh_wish (by omega) | exact sh_wor (by omega) | exact sh_bar (by omega) | exact sh_term (by omega) | exact sh_sheet (by omega) | exact sh_items (by omega) | exact sh_sums (by omega)) rfl ?_
  refine wp_astore (pc := 15) dX0_fill_15 (by decide) ?_
  refine wp_iconst (pc := 17) (v := 0) dX0_fill_17 (by decide) ?_
  refine wp_istore (pc := 18) dX0_fill_18 (by decide) ?_
  skip
  rw [er]
  exact l_fill hg0 hg k 64 0 (by omega) μ (fun _ _ => rfl) rfl (fun p hp => absurd hp (by omega)) _ (by first | rfl | assumption | (repeat first | assumption | rfl | refine aG_n ?_ rfl rfl)) (by first | rfl | assumption | (repeat first | assumption | rfl | refine aG_n ?_ rfl rfl)) (by first | rfl | assumption | (repeat first | assumption | rfl | refine aG_n ?_ rfl rfl)) (by first | rfl | assumption | (repeat first | assumption | rfl | refine aG_n ?_ rfl rfl)) (by first | rfl | assumption | (repeat first | assumption | rfl | refine aG_n ?_ rfl rfl))
end MOST
theorem gRow_fl (M : MM) (g : Nat) (hg : g < 16) (h0 : 0 < g) (p : Nat) : gRow M 0 g 4 p = (if g &&& (g - 1) = 0 then (if M (58 + 4 * nz g) p = 0 then M (57 + 4 * nz g) p else nov) else gPt (M (57 + 4 * nz g)) (M (58 + 4 * nz g)) (gRow M 0 (g &&& (g - 1)) 4) p p) := by
  have hc : g = 1 ∨ g = 2 ∨ g = 3 ∨ g = 4 ∨ g = 5 ∨ g = 6 ∨ g = 7 ∨ g = 8 ∨ g = 9 ∨ g = 10 ∨ g = 11 ∨ g = 12 ∨ g = 13 ∨ g = 14 ∨ g = 15 := by omega
  rcases hc with rfl | rfl | rfl | rfl | rfl | rfl | rfl | rfl | rfl | rfl | rfl | rfl | rfl | rfl | rfl <;> simp [gRow, nz]
/-- the table stands for all groups -/
def GT (M : MM) : Prop := ∀ g, 0 < g → g < 16 → ∀ p, p < 64 → M (13 + g) p = gRow M 0 g 4 p
def offS (μ μ' : Mm) : Prop := (∀ c, ¬ (c = 11 ∨ (13 ≤ c ∧ c ≤ 28)) → μ'.1 c = μ.1 c) ∧ μ'.2 = μ.2
section RENEW
variable {X : aX} {μ : Mm} {Q : Option Value → Mm → Prop}
theorem gRow_s {M M' : MM} (h : ∀ c, 57 ≤ c → c ≤ 70 → M' c = M c) (g : Nat) : gRow M' 0 g 4 = gRow M 0 g 4 := gRow_c (fun i hi => ⟨h _ (by omega) (by omega), h _ (by omega) (by omega)⟩) 4 0 g (by omega)
theorem l_rnw {st : Nat} (hst : st < 16) (h11 : μ.1 11 1 = nI st) (hG : ∀ g, 0 < g → g < 16 → g &&& st = 0 → ∀ p, p < 64 → μ.1 (13 + g) p = gRow μ.1 0 g 4 p) (k : ∀ μ' : Mm, offS μ μ' → μ'.1 11 1 = 0 → GT μ'.1 → Q none μ') : ∀ (f g : Nat), g + f = 16 → 0 < g → ∀ μ' : Mm, (∀ c, ¬ (13 ≤ c ∧ c < 13 + g) → μ'.1 c = μ.1 c) → μ'.2 = μ.2 → (∀ h, 0 < h → h < g → ∀ p, p < 64 → μ'.1 (13 + h) p = gRow μ.1 0 h 4 p) → ∀ L : aL, aL_get L 0 = some (.ref 11) → aL_get L 1 = some (.ref 1) → aL_get L 2 = some (.int (nI g)) → WP X mX0_renew 2 L [] μ' Q := by
  have fin : ∀ g, 0 < g → g ≤ 16 → (g = 16 ∨ st = 0) → ∀ μ' : Mm, (∀ c, ¬ (13 ≤ c ∧ c < 13 + g) → μ'.1 c = μ.1 c) → μ'.2 = μ.2 → (∀ h, 0 < h → h < g → ∀ p, p < 64 → μ'.1 (13 + h) p = gRow μ.1 0 h 4 p) → ∀ L : aL, aL_get L 0 = some (.ref 11) → WP X mX0_renew 36 L [] μ' Q := by
    intro g hg0 hg hor μ' ho hr hs L g0
    refine wp_aload_n (pc := 36) dX0_renew_36 (by first | rfl | assumption | (repeat first | assumption | rfl | refine aG_n ?_ rfl rfl)) ?_
    refine wp_iconst (pc := 37) (v := 0) dX0_renew_37 (by decide) ?_
    refine wp_putI (pc := 38) dX0_renew_38 fl_0_16 (by first | rfl | assumption | exact sh_house (by omega) | exact sh_wish (by omega) | exact sh_wor (by omega) | exact sh_bar (by omega) | exact sh_term (by omega) | exact sh_sheet (by omega) | exact sh_items (by omega) | exact sh_sums (by omega)) rfl rfl rfl ?_
    refine wp_vreturn (pc := 41) dX0_renew_41 rfl ?_
    refine k _ ⟨fun c hc => ?_, hr⟩ (by dsimp only; exact up2_at) (fun h h0 h16 p hp => ?_)
    · dsimp only; rw [up2_ne (by omega)]; exact ho c (by omega)
    · dsimp only
      rw [up2_ne (by omega), gRow_s (M := μ.1) (fun c h1 h2 => by rw [up2_ne (by omega)]; exact ho c (by omega)) h]
      by_cases e : h < g
      · exact hs h h0 e p hp
      · rw [ho (13 + h) (by omega)]
        refine hG h h0 h16 ?_ p hp
        rcases hor with z | z
        · omega
        · rw [z]; exact Nat.and_zero _
  intro f
  induction f with
  | zero =>
    intro g hg hg0 μ' ho hr hs L g0 g1 g2
    obtain rfl : g = 16 := by omega
    refine wp_iload_n (pc := 2) dX0_renew_2 (by first | rfl | assumption | (repeat first | assumption | rfl | refine aG_n ?_ rfl rfl)) ?_
    refine wp_bipush (pc := 3) (v := 16) dX0_renew_3 (by decide) ?_
    refine wp_icmp_ge (pc := 5) (tgt := 36) dX0_renew_5 rfl (fun _ => ?_) (fun q => absurd (nI_le (a := 16) (b := 16) (by omega) (by omega)) q)
    exact fin 16 (by omega) (by omega) (Or.inl rfl) _ ho hr hs _ g0
  | succ f ih =>
    intro g hg hg0 μ' ho hr hs L g0 g1 g2
    have e11 : μ'.1 11 1 = nI st := by rw [ho 11 (by omega)]; exact h11
    have ga : nI g &&& nI st = nI (g &&& st) := nI_and (by omega) (by omega)
    have gl : g &&& st < 16 := Nat.and_lt_two_pow (n := 4) g hst
    by_cases s0 : st = 0
    · refine wp_iload_n (pc := 2) dX0_renew_2 (by first | rfl | assumption | (repeat first | assumption | rfl | refine aG_n ?_ rfl rfl)) ?_
      refine wp_bipush (pc := 3) (v := 16) dX0_renew_3 (by decide) ?_
      refine wp_icmp_ge (pc := 5) (tgt := 36) dX0_renew_5 rfl (fun q => absurd q (nI_ge (a := g) (b := 16) (by omega) (by omega))) (fun _ => ?_)
      refine wp_aload_n (pc := 8) dX0_renew_8 (by first | rfl | assumption | (repeat first | assumption | rfl | refine aG_n ?_ rfl rfl)) ?_
      refine wp_getI (pc := 9) dX0_renew_9 fl_0_16 (by first | rfl | assumption | exact sh_house (by omega) | exact sh_wish (by omega) | exact sh_wor (by omega) | exact sh_bar (by omega) | exact sh_term (by omega) | exact sh_sheet (by omega) | exact sh_items (by omega) | exact sh_sums (by omega)) rfl ?_
      refine wp_if_eq (pc := 12) (tgt := 36) dX0_renew_12 rfl (fun _ => ?_) (fun q => absurd (by rw [e11, s0]; rfl) q)
      exact fin g hg0 (by omega) (Or.inr s0) _ ho hr hs _ g0
    · have nst : ¬ μ'.1 11 1 = 0 := by rw [e11]; exact nI_ne0 (by omega) (by omega)
      by_cases c : g &&& st = 0
      · refine wp_iload_n (pc := 2) dX0_renew_2 (by first | rfl | assumption | (repeat first | assumption | rfl | refine aG_n ?_ rfl rfl)) ?_
        refine wp_bipush (pc := 3) (v := 16) dX0_renew_3 (by decide) ?_
        refine wp_icmp_ge (pc := 5) (tgt := 36) dX0_renew_5 rfl (fun q => absurd q (nI_ge (a := g) (b := 16) (by omega) (by omega))) (fun _ => ?_)
        refine wp_aload_n (pc := 8) dX0_renew_8 (by first | rfl | assumption | (repeat first | assumption | rfl | refine aG_n ?_ rfl rfl)) ?_
        refine wp_getI (pc := 9) dX0_renew_9 fl_0_16 (by first | rfl | assumption | exact sh_house (by omega) | exact sh_wish (by omega) | exact sh_wor (by omega) | exact sh_bar (by omega) | exact sh_term (by omega) | exact sh_sheet (by omega) | exact sh_items (by omega) | exact sh_sums (by omega)) rfl ?_
        refine wp_if_eq (pc := 12) (tgt := 36) dX0_renew_12 rfl (fun q => absurd q nst) (fun _ => ?_)
        refine wp_iload_n (pc := 15) dX0_renew_15 (by first | rfl | assumption | (repeat first | assumption | rfl | refine aG_n ?_ rfl rfl)) ?_
        refine wp_aload_n (pc := 16) dX0_renew_16 (by first | rfl | assumption | (repeat first | assumption | rfl | refine aG_n ?_ rfl rfl)) ?_
        refine wp_getI (pc := 17) dX0_renew_17 fl_0_16 (by first | rfl | assumption | exact sh_house (by omega) | exact sh_wish (by omega) | exact sh_wor (by omega) | exact sh_bar (by omega) | exact sh_term (by omega) | exact sh_sheet (by omega) | exact sh_items (by omega) | exact sh_sums (by omega)) rfl ?_
        refine wp_iand (pc := 20) dX0_renew_20 ?_
        refine wp_if_eq (pc := 21) (tgt := 30) dX0_renew_21 rfl (fun _ => ?_) (fun q => absurd (by rw [e11, ga, c]; rfl) q)
        refine wp_iinc (pc := 30) dX0_renew_30 (by decide) (by first | rfl | assumption | (repeat first | assumption | rfl | refine aG_n ?_ rfl rfl)) rfl ?_
        refine wp_goto (pc := 33) (tgt := 2) dX0_renew_33 rfl ?_
        skip
        refine ih (g + 1) (by omega) (by omega) _ (fun x hx => ho x (by omega)) hr (fun h h0 h1 p hp => ?_) _ (by first | rfl | assumption | (repeat first | assumption | rfl | refine aG_n ?_ rfl rfl)) (by first | rfl | assumption | (repeat first | assumption | rfl | refine aG_n ?_ rfl rfl)) (by rw [← nI_i1]; first | rfl | assumption | (repeat first | assumption | rfl | refine aG_n ?_ rfl rfl))
        by_cases e : h = g
        · subst e; rw [ho (13 + h) (by omega)]; exact hG h h0 (by omega) c p hp
        · exact hs h h0 (by omega) p hp
      · refine wp_iload_n (pc := 2) dX0_renew_2 (by first | rfl | assumption | (repeat first | assumption | rfl | refine aG_n ?_ rfl rfl)) ?_
        refine wp_bipush (pc := 3) (v := 16) dX0_renew_3 (by decide) ?_
        refine wp_icmp_ge (pc := 5) (tgt := 36) dX0_renew_5 rfl (fun q => absurd q (nI_ge (a := g) (b := 16) (by omega) (by omega))) (fun _ => ?_)
        refine wp_aload_n (pc := 8) dX0_renew_8 (by first | rfl | assumption | (repeat first | assumption | rfl | refine aG_n ?_ rfl rfl)) ?_
        refine wp_getI (pc := 9) dX0_renew_9 fl_0_16 (by first | rfl | assumption | exact sh_house (by omega) | exact sh_wish (by omega) | exact sh_wor (by omega) | exact sh_bar (by omega) | exact sh_term (by omega) | exact sh_sheet (by omega) | exact sh_items (by omega) | exact sh_sums (by omega)) rfl ?_
        refine wp_if_eq (pc := 12) (tgt := 36) dX0_renew_12 rfl (fun q => absurd q nst) (fun _ => ?_)
        refine wp_iload_n (pc := 15) dX0_renew_15 (by first | rfl | assumption | (repeat first | assumption | rfl | refine aG_n ?_ rfl rfl)) ?_
        refine wp_aload_n (pc := 16) dX0_renew_16 (by first | rfl | assumption | (repeat first | assumption | rfl | refine aG_n ?_ rfl rfl)) ?_
        refine wp_getI (pc := 17) dX0_renew_17 fl_0_16 (by first | rfl | assumption | exact sh_house (by omega) | exact sh_wish (by omega) | exact sh_wor (by omega) | exact sh_bar (by omega) | exact sh_term (by omega) | exact sh_sheet (by omega) | exact sh_items (by omega) | exact sh_sums (by omega)) rfl ?_
        refine wp_iand (pc := 20) dX0_renew_20 ?_
        refine wp_if_eq (pc := 21) (tgt := 30) dX0_renew_21 rfl (fun q => absurd q (by rw [e11, ga]; exact nI_ne0 (by omega) (by omega))) (fun _ => ?_)
        refine wp_aload_n (pc := 24) dX0_renew_24 (by first | rfl | assumption | (repeat first | assumption | rfl | refine aG_n ?_ rfl rfl)) ?_
        refine wp_aload_n (pc := 25) dX0_renew_25 (by first | rfl | assumption | (repeat first | assumption | rfl | refine aG_n ?_ rfl rfl)) ?_
        refine wp_iload_n (pc := 26) dX0_renew_26 (by first | rfl | assumption | (repeat first | assumption | rfl | refine aG_n ?_ rfl rfl)) ?_
        refine wp_cV (pc := 27) dX0_renew_27 lk_0_66 rfl (by decide) rfl (by first | rfl | assumption | exact sh_house (by omega) | exact sh_wish (by omega) | exact sh_wor (by omega) | exact sh_bar (by omega) | exact sh_term (by omega) | exact sh_sheet (by omega) | exact sh_items (by omega) | exact sh_sums (by omega)) rfl rfl ?_
        refine c_X0_fill hg0 (by omega) (fun μ2 o2 r2 s2 => aK_v ?_)
        refine wp_iinc (pc := 30) dX0_renew_30 (by decide) (by first | rfl | assumption | (repeat first | assumption | rfl | refine aG_n ?_ rfl rfl)) rfl ?_
        refine wp_goto (pc := 33) (tgt := 2) dX0_renew_33 rfl ?_
        skip
        obtain ⟨z4, rlt⟩ := g_low g (by omega) hg0
        refine ih (g + 1) (by omega) (by omega) _ (fun x hx => (o2 x (by omega)).trans (ho x (by omega))) (r2.trans hr) (fun h h0 h1 p hp => ?_) _ (by first | rfl | assumption | (repeat first | assumption | rfl | refine aG_n ?_ rfl rfl)) (by first | rfl | assumption | (repeat first | assumption | rfl | refine aG_n ?_ rfl rfl)) (by rw [← nI_i1]; first | rfl | assumption | (repeat first | assumption | rfl | refine aG_n ?_ rfl rfl))
        by_cases e : h = g
        · subst e
          rw [s2 p hp, gRow_fl μ.1 h (by omega) h0 p]
          unfold flR
          rw [ho (57 + 4 * nz h) (by omega), ho (58 + 4 * nz h) (by omega)]
          by_cases r0 : h &&& (h - 1) = 0
          · rw [if_pos r0, if_pos r0]
          · rw [if_neg r0, if_neg r0]
            exact gPt_c hp (fun s hs2 => ⟨rfl, rfl, hs _ (by omega) rlt s hs2⟩) p hp
        · rw [o2 (13 + h) (by omega)]; exact hs h h0 (by omega) p hp
theorem c_X0_renew (hG : I_grp μ.1) (k : ∀ μ' : Mm, offS μ μ' → μ'.1 11 1 = 0 → GT μ'.1 → Q none μ') : WP X mX0_renew 0 (lv_args 0 [.ref 11, .ref 1]) [] μ Q := by
  obtain ⟨st, h1, h2, h3⟩ := hG
  refine wp_iconst (pc := 0) (v := 1) dX0_renew_0 (by decide) ?_
  refine wp_istore_n (pc := 1) dX0_renew_1 (by decide) ?_
  exact l_rnw h1 h2 h3 k 15 1 (by omega) (by omega) μ (fun _ _ => rfl) rfl (fun h h0 h1 => absurd h0 (by omega)) _ (by first | rfl | assumption | (repeat first | assumption | rfl | refine aG_n ?_ rfl rfl)) (by first | rfl | assumption | (repeat first | assumption | rfl | refine aG_n ?_ rfl rfl)) (by first | rfl | assumption | (repeat first | assumption | rfl | refine aG_n ?_ rfl rfl))
/-- what a group has -/
def tG (M : MM) (g : Nat) : Nat → Nat
  | 0 => 0
  | n + 1 => if g.testBit n = true then tG M g n ||| th M n else tG M g n
theorem tG_lt (M : MM) (g : Nat) : ∀ n, tG M g n < 64
  | 0 => by show 0 < 64; decide
  | n + 1 => by
    unfold tG
    split
    · exact o64 (tG_lt M g n) (th_lt M n)
    · exact tG_lt M g n
theorem l_thG {g : Nat} (hO : I_own μ.1) (hg : g < 16) (k : Q (some (.int (nI (tG μ.1 g 4)))) μ) : ∀ (f t : Nat), t + f = 4 → ∀ L : aL, aL_get L 0 = some (.ref 1) → aL_get L 1 = some (.int (nI g)) → aL_get L 2 = some (.int (nI (tG μ.1 g t))) → aL_get L 3 = some (.int (nI t)) → WP X mX0_thingsOf 4 L [] μ Q
  | 0, t, ht, L, g0, g1, g2, g3 => by
    obtain rfl : t = 4 := by omega
    refine wp_iload_n (pc := 4) dX0_thingsOf_4 (by first | rfl | assumption | (repeat first | assumption | rfl | refine aG_n ?_ rfl rfl)) ?_
    refine wp_iconst (pc := 5) (v := 4) dX0_thingsOf_5 (by decide) ?_
    refine wp_icmp_ge (pc := 6) (tgt := 32) dX0_thingsOf_6 rfl (fun _ => ?_) (fun q => absurd (nI_le (a := 4) (b := 4) (by omega) (by omega)) q)
    refine wp_iload_n (pc := 32) dX0_thingsOf_32 (by first | rfl | assumption | (repeat first | assumption | rfl | refine aG_n ?_ rfl rfl)) ?_
    refine wp_ireturn (pc := 33) dX0_thingsOf_33 rfl (by first | rfl | decide | assumption) ?_
    exact k
  | f + 1, t, ht, L, g0, g1, g2, g3 => by
    by_cases hb : g.testBit t = true
    · have e : nI (tG μ.1 g t) ||| μ.1 (55 + 4 * t) 0 = nI (tG μ.1 g (t + 1)) := by
        rw [hO.2 t (by omega), show tG μ.1 g (t + 1) = tG μ.1 g t ||| th μ.1 t from if_pos hb]
        exact or6 (tG_lt _ _ _) (th_lt _ _)
      refine wp_iload_n (pc := 4) dX0_thingsOf_4 (by first | rfl | assumption | (repeat first | assumption | rfl | refine aG_n ?_ rfl rfl)) ?_
      refine wp_iconst (pc := 5) (v := 4) dX0_thingsOf_5 (by decide) ?_
      refine wp_icmp_ge (pc := 6) (tgt := 32) dX0_thingsOf_6 rfl (fun q => absurd q (nI_ge (a := t) (b := 4) (by omega) (by omega))) (fun _ => ?_)
      refine wp_iload_n (pc := 9) dX0_thingsOf_9 (by first | rfl | assumption | (repeat first | assumption | rfl | refine aG_n ?_ rfl rfl)) ?_
      refine wp_iload_n (pc := 10) dX0_thingsOf_10 (by first | rfl | assumption | (repeat first | assumption | rfl | refine aG_n ?_ rfl rfl)) ?_
      refine wp_cS (pc := 11) dX0_thingsOf_11 lk_0_32 rfl rfl rfl (c_X11_hasBit rfl (show g < 64 by omega) (by omega) (fun _ => aK_i ?_) (fun q => absurd hb q))
      refine wp_if_eq (pc := 14) (tgt := 26) dX0_thingsOf_14 rfl (fun q => absurd q (by decide)) (fun _ => ?_)
      refine wp_iload_n (pc := 17) dX0_thingsOf_17 (by first | rfl | assumption | (repeat first | assumption | rfl | refine aG_n ?_ rfl rfl)) ?_
      refine wp_aload_n (pc := 18) dX0_thingsOf_18 (by first | rfl | assumption | (repeat first | assumption | rfl | refine aG_n ?_ rfl rfl)) ?_
      refine wp_iload_n (pc := 19) dX0_thingsOf_19 (by first | rfl | assumption | (repeat first | assumption | rfl | refine aG_n ?_ rfl rfl)) ?_
      refine wp_aald (pc := 20) dX0_thingsOf_20 (by first | rfl | assumption | exact sh_house (by omega) | exact sh_wish (by omega) | exact sh_wor (by omega) | exact sh_bar (by omega) | exact sh_term (by omega) | exact sh_sheet (by omega) | exact sh_items (by omega) | exact sh_sums (by omega)) (vp_in_nI (by omega) (by decide)) (by decide) (el_house (by omega)) ?_
      refine wp_getI (pc := 21) dX0_thingsOf_21 fl_0_48 (by first | rfl | assumption | exact sh_house (by omega) | exact sh_wish (by omega) | exact sh_wor (by omega) | exact sh_bar (by omega) | exact sh_term (by omega) | exact sh_sheet (by omega) | exact sh_items (by omega) | exact sh_sums (by omega)) rfl ?_
      refine wp_ior (pc := 24) dX0_thingsOf_24 ?_
      refine wp_istore_n (pc := 25) dX0_thingsOf_25 (by decide) ?_
      refine wp_iinc (pc := 26) dX0_thingsOf_26 (by decide) (by first | rfl | assumption | (repeat first | assumption | rfl | refine aG_n ?_ rfl rfl)) rfl ?_
      refine wp_goto (pc := 29) (tgt := 4) dX0_thingsOf_29 rfl ?_
      exact l_thG hO hg k f (t + 1) (by omega) _ (by first | rfl | assumption | (repeat first | assumption | rfl | refine aG_n ?_ rfl rfl)) (by first | rfl | assumption | (repeat first | assumption | rfl | refine aG_n ?_ rfl rfl)) (by rw [← e]; first | rfl | assumption | (repeat first | assumption | rfl | refine aG_n ?_ rfl rfl)) (by rw [← nI_i1]; first | rfl | assumption | (repeat first | assumption | rfl | refine aG_n ?_ rfl rfl))
    · have e : tG μ.1 g (t + 1) = tG μ.1 g t := if_neg hb
      refine wp_iload_n (pc := 4) dX0_thingsOf_4 (by first | rfl | assumption | (repeat first | assumption | rfl | refine aG_n ?_ rfl rfl)) ?_
      refine wp_iconst (pc := 5) (v := 4) dX0_thingsOf_5 (by decide) ?_
      refine wp_icmp_ge (pc := 6) (tgt := 32) dX0_thingsOf_6 rfl (fun q => absurd q (nI_ge (a := t) (b := 4) (by omega) (by omega))) (fun _ => ?_)
      refine wp_iload_n (pc := 9) dX0_thingsOf_9 (by first | rfl | assumption | (repeat first | assumption | rfl | refine aG_n ?_ rfl rfl)) ?_
      refine wp_iload_n (pc := 10) dX0_thingsOf_10 (by first | rfl | assumption | (repeat first | assumption | rfl | refine aG_n ?_ rfl rfl)) ?_
      refine wp_cS (pc := 11) dX0_thingsOf_11 lk_0_32 rfl rfl rfl (c_X11_hasBit rfl (show g < 64 by omega) (by omega) (fun q => absurd q hb) (fun _ => aK_i ?_))
      refine wp_if_eq (pc := 14) (tgt := 26) dX0_thingsOf_14 rfl (fun _ => ?_) (fun q => absurd q (by decide))
      refine wp_iinc (pc := 26) dX0_thingsOf_26 (by decide) (by first | rfl | assumption | (repeat first | assumption | rfl | refine aG_n ?_ rfl rfl)) rfl ?_
      refine wp_goto (pc := 29) (tgt := 4) dX0_thingsOf_29 rfl ?_
      exact l_thG hO hg k f (t + 1) (by omega) _ (by first | rfl | assumption | (repeat first | assumption | rfl | refine aG_n ?_ rfl rfl)) (by first | rfl | assumption | (repeat first | assumption | rfl | refine aG_n ?_ rfl rfl)) (by rw [e]; first | rfl | assumption | (repeat first | assumption | rfl | refine aG_n ?_ rfl rfl)) (by rw [← nI_i1]; first | rfl | assumption | (repeat first | assumption | rfl | refine aG_n ?_ rfl rfl))
theorem c_X0_thingsOf {g : Nat} (hO : I_own μ.1) (hg : g < 16) (k : Q (some (.int (nI (tG μ.1 g 4)))) μ) : WP X mX0_thingsOf 0 (lv_args 0 [.ref 1, .int (nI g)]) [] μ Q := by
  refine wp_iconst (pc := 0) (v := 0) dX0_thingsOf_0 (by decide) ?_
  refine wp_istore_n (pc := 1) dX0_thingsOf_1 (by decide) ?_
  refine wp_iconst (pc := 2) (v := 0) dX0_thingsOf_2 (by decide) ?_
  refine wp_istore_n (pc := 3) dX0_thingsOf_3 (by decide) ?_
  exact l_thG hO hg k 4 0 (by omega) _ (by first | rfl | assumption | (repeat first | assumption | rfl | refine aG_n ?_ rfl rfl)) (by first | rfl | assumption | (repeat first | assumption | rfl | refine aG_n ?_ rfl rfl)) (by first | rfl | assumption | (repeat first | assumption | rfl | refine aG_n ?_ rfl rfl)) (by first | rfl | assumption | (repeat first | assumption | rfl | refine aG_n ?_ rfl rfl))
/-- a group's VALUE -/
def vG (M : MM) (g : Nat) : Int32 := gRow M 0 g 4 (tG M g 4)
theorem c_X0_valueOf {g : Nat} (hO : I_own μ.1) (hG : I_grp μ.1) (hg0 : 0 < g) (hg : g < 16) (k : ∀ μ' : Mm, offS μ μ' → I_grp μ'.1 → Q (some (.int (vG μ.1 g))) μ') : WP X mX0_valueOf 0 (lv_args 0 [.ref 11, .ref 1, .int (nI g)]) [] μ Q := by
  have hl := tG_lt μ.1 g 4
  refine wp_aload_n (pc := 0) dX0_valueOf_0 (by first | rfl | assumption | (repeat first | assumption | rfl | refine aG_n ?_ rfl rfl)) ?_
  refine wp_aload_n (pc := 1) dX0_valueOf_1 (by first | rfl | assumption | (repeat first | assumption | rfl | refine aG_n ?_ rfl rfl)) ?_
  refine wp_cV (pc := 2) dX0_valueOf_2 lk_0_20 rfl (by decide) rfl (by first | rfl | assumption | exact sh_house (by omega) | exact sh_wish (by omega) | exact sh_wor (by omega) | exact sh_bar (by omega) | exact sh_term (by omega) | exact sh_sheet (by omega) | exact sh_items (by omega) | exact sh_sums (by omega)) rfl rfl ?_
  refine c_X0_renew hG (fun μ1 o1 z1 t1 => aK_v ?_)
  have hO1 : I_own μ1.1 := own_c (o1.1 _ (by omega)) (fun i hi => congrFun (o1.1 _ (by omega)) 0) hO
  refine wp_aload_n (pc := 5) dX0_valueOf_5 (by first | rfl | assumption | (repeat first | assumption | rfl | refine aG_n ?_ rfl rfl)) ?_
  refine wp_getR (pc := 6) dX0_valueOf_6 fl_0_11 (by first | rfl | assumption | exact sh_house (by omega) | exact sh_wish (by omega) | exact sh_wor (by omega) | exact sh_bar (by omega) | exact sh_term (by omega) | exact sh_sheet (by omega) | exact sh_items (by omega) | exact sh_sums (by omega)) rfl ?_
  refine wp_iload_n (pc := 9) dX0_valueOf_9 (by first | rfl | assumption | (repeat first | assumption | rfl | refine aG_n ?_ rfl rfl)) ?_
  refine wp_aald (pc := 10) dX0_valueOf_10 (by first | rfl | assumption | exact sh_house (by omega) | exact sh_wish (by omega) | exact sh_wor (by omega) | exact sh_bar (by omega) | exact sh_term (by omega) | exact sh_sheet (by omega) | exact sh_items (by omega) | exact sh_sums (by omega)) (vp_in_nI hg (by decide)) (by decide) (el_sums hg) ?_
  refine wp_aload_n (pc := 11) dX0_valueOf_11 (by first | rfl | assumption | (repeat first | assumption | rfl | refine aG_n ?_ rfl rfl)) ?_
  refine wp_iload_n (pc := 12) dX0_valueOf_12 (by first | rfl | assumption | (repeat first | assumption | rfl | refine aG_n ?_ rfl rfl)) ?_
  refine wp_cS (pc := 13) dX0_valueOf_13 lk_0_24 rfl rfl rfl (c_X0_thingsOf hO1 hg (aK_i ?_))
  refine wp_iald (pc := 16) dX0_valueOf_16 (by first | rfl | assumption | exact sh_house (by omega) | exact sh_wish (by omega) | exact sh_wor (by omega) | exact sh_bar (by omega) | exact sh_term (by omega) | exact sh_sheet (by omega) | exact sh_items (by omega) | exact sh_sums (by omega)) (vp_in_nI (tG_lt _ _ _) (by decide)) ?_
  refine wp_ireturn (pc := 17) dX0_valueOf_17 rfl (by first | rfl | decide | assumption) ?_
  skip
  have et : ∀ n, tG μ1.1 g n = tG μ.1 g n := fun n => by
    induction n with
    | zero => rfl
    | succ n ih => unfold tG; rw [ih, show th μ1.1 n = th μ.1 n from by unfold th; rw [o1.1 87 (by omega)]]
  refine qEq ?_ (k _ o1 ⟨0, by omega, z1, fun g' h0 h16 _ p hp => t1 g' h0 h16 p hp⟩)
  rw [et 4, nI_clamp (by omega), t1 g hg0 hg _ hl, gRow_s (M := μ.1) (fun c h1 h2 => o1.1 c (by omega))]
  rfl
end RENEW

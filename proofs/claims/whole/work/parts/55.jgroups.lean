theorem Inv_S {μ μ1 : Mm} (hI : Inv μ) (h : offS μ μ1) (hG : I_grp μ1.1) : Inv μ1 := by
  obtain ⟨M, R⟩ := μ
  obtain ⟨M1, R1⟩ := μ1
  obtain rfl : R1 = R := h.2
  have hr : ∀ c, ¬ (c = 11 ∨ (13 ≤ c ∧ c ≤ 28)) → M1 c = M c := h.1
  obtain ⟨i1, i2, i3, i4, i5, i6, i7, i8, i9, i10⟩ := hI
  exact ⟨own_c (hr _ (by omega)) (fun i hi => congrFun (hr _ (by omega)) 0) i1, coin_c (hr _ (by omega)) (fun i hi => congrFun (hr _ (by omega)) 1) i2, lev_c ⟨hr _ (by omega), hr _ (by omega), hr _ (by omega)⟩ (fun i hi => ⟨congrFun (hr _ (by omega)) 2, congrFun (hr _ (by omega)) 3, congrFun (hr _ (by omega)) 4⟩) i3, wish_c ⟨hr _ (by omega), hr _ (by omega), hr _ (by omega), hr _ (by omega)⟩ (fun i hi => ⟨hr _ (by omega), hr _ (by omega), hr _ (by omega)⟩) i4, tape_c (congrFun (hr _ (by omega)) 1) (congrFun (hr _ (by omega)) 10) (hr _ (by omega)) (hr _ (by omega)) i5, talk_c ⟨hr _ (by omega), hr _ (by omega), hr _ (by omega), hr _ (by omega), hr _ (by omega)⟩ ⟨hr _ (by omega), hr _ (by omega), hr _ (by omega)⟩ (fun j a b => congrFun (hr _ (by omega)) _) (fun _ => ⟨hr _ (by omega), hr _ (by omega)⟩) rfl i6, led_c (congrFun (hr _ (by omega)) 2) (congrFun (hr _ (by omega)) 37) (fun i hi => hr _ (by omega)) (fun c a b => hr _ (by omega)) ⟨hr _ (by omega), hr _ (by omega)⟩ i7, row_c (hr _ (by omega)) (hr _ (by omega)) i8, sheet_c ⟨hr _ (by omega), hr _ (by omega), hr _ (by omega)⟩ (fun s hs => ⟨hr _ (by omega), hr _ (by omega)⟩) i9, hG⟩
/-- what the model's search leaves as it was -/
def offW2 (μ μ' : Mm) : Prop := (∀ c j, ¬ (107 ≤ c ∧ c ≤ 110) → μ'.1 c j = μ.1 c j) ∧ μ'.2 = μ.2
theorem offV.w2 {g : Nat} {μ μ' : Mm} (h : offV g μ μ') : offW2 μ μ' := ⟨fun c j hc => h.1 c j (by omega), h.2⟩
theorem offW2.tr {μ μ' μ'' : Mm} (h : offW2 μ μ') (h' : offW2 μ' μ'') : offW2 μ μ'' := ⟨fun c j hc => (h'.1 c j hc).trans (h.1 c j hc), h'.2.trans h.2⟩
theorem offW2.rf {μ : Mm} : offW2 μ μ := ⟨fun _ _ _ => rfl, rfl⟩
theorem offW2.row {μ μ' : Mm} (h : offW2 μ μ') {c : Nat} (hc : ¬ (107 ≤ c ∧ c ≤ 110)) : μ'.1 c = μ.1 c := funext fun j => h.1 c j hc
theorem Inv_W2 {μ μ1 : Mm} (hI : Inv μ) (h : offW2 μ μ1) : Inv μ1 := by
  obtain ⟨M, R⟩ := μ
  obtain ⟨M1, R1⟩ := μ1
  refine Inv_s hI (fun c j hc => h.1 c j ?_) (by rw [show R1 = R from h.2])
  unfold scr at hc; omega
theorem tG_c {M M' : MM} (h : M' 87 = M 87) (g : Nat) : ∀ n, tG M' g n = tG M g n
  | 0 => rfl
  | n + 1 => by unfold tG; rw [tG_c h g n, show th M' n = th M n from by unfold th; rw [h]]
theorem vG_c {M M' : MM} (h : ∀ c, (57 ≤ c ∧ c ≤ 70) ∨ c = 87 → M' c = M c) (g : Nat) : vG M' g = vG M g := by
  unfold vG
  rw [tG_c (h 87 (by omega)) g 4, gRow_s (M := M) (fun c h1 h2 => h c (by omega))]
theorem J_value (v : Int32) : Jnt mX11_value mX12_value [.int v] := by
  intro X μ Q hI k
  have h115 : ∀ x : Int32, inR x (1 : Int32).toInt (15 : Int32).toInt ↔ ∃ g, 0 < g ∧ g < 16 ∧ x = nI g := by
    intro x
    have q1 : (1 : Int32).toInt = 1 := by decide
    have q2 : (15 : Int32).toInt = 15 := by decide
    rw [q1, q2]
    constructor
    · intro h
      obtain ⟨j, hj, rfl⟩ := inR_of (n := 15) ⟨by have := h.1; omega, h.2⟩
      have h1 := h.1
      rw [nI_toInt (by omega)] at h1
      exact ⟨j, by omega, by omega, rfl⟩
    · rintro ⟨g, h1, h2, rfl⟩
      unfold inR; rw [nI_toInt (by omega)]; omega
  by_cases c1 : inR v (1 : Int32).toInt (15 : Int32).toInt
  · obtain ⟨g, hg0, hg, rfl⟩ := (h115 v).mp c1
    have cg : (nI g).toNatClampNeg = g := nI_clamp (by omega)
    have mt : ∀ μ1 : Mm, offS μ μ1 → I_grp μ1.1 → ∀ Q' : Option Value → Mm → Prop, (∀ μ2, Inv μ2 → Q' (some (.int (if vG μ.1 g = nov then -10004 else vG μ.1 g))) μ2) → WP X mX12_value 0 (lv_args 0 [.ref 86, .int (nI g)]) [] μ1 Q' := by
      intro μ1 o1 hG1 Q' k'
      have hI1 := Inv_S hI o1 hG1
      have ev : vG μ1.1 g = vG μ.1 g := vG_c (fun c hc => o1.1 c (by omega)) g
      refine wp_iload_n (pc := 0) dX12_value_0 (by first | rfl | assumption | (repeat first | assumption | rfl | refine aG_n ?_ rfl rfl)) ?_
      refine wp_i2l (pc := 1) dX12_value_1 ?_
      refine wp_lconst (pc := 2) (v := 1) dX12_value_2 (by decide) ?_
      refine wp_ldc2 (pc := 3) dX12_value_3 cl_12_307 ?_
      refine wp_cS (pc := 6) dX12_value_6 lk_12_133 rfl rfl rfl (c_X12_in (fun _ => aK_i ?_) (fun q => absurd (by rw [w_int]; exact c1) q))
      refine wp_if_ne (pc := 9) (tgt := 16) dX12_value_9 rfl (fun _ => ?_) (fun q => absurd q (by decide))
      refine wp_aload_n (pc := 16) dX12_value_16 (by first | rfl | assumption | (repeat first | assumption | rfl | refine aG_n ?_ rfl rfl)) ?_
      refine wp_iload_n (pc := 17) dX12_value_17 (by first | rfl | assumption | (repeat first | assumption | rfl | refine aG_n ?_ rfl rfl)) ?_
      refine wp_cV (pc := 18) dX12_value_18 lk_12_309 rfl (by decide) rfl (by first | rfl | assumption | exact sh_house (by omega) | exact sh_wish (by omega) | exact sh_wor (by omega) | exact sh_bar (by omega) | exact sh_term (by omega) | exact sh_sheet (by omega) | exact sh_items (by omega) | exact sh_sums (by omega)) rfl rfl ?_
      refine c_X12_findValue hI1.2.2.2.1 hg (fun μ2 o2 r2 => aK_v ?_)
      rw [show fvR μ2.1 μ1.1 g ↔ fvR μ2.1 μ1.1 g from Iff.rfl] at r2
      refine wp_aload_n (pc := 21) dX12_value_21 (by first | rfl | assumption | (repeat first | assumption | rfl | refine aG_n ?_ rfl rfl)) ?_
      refine wp_getR (pc := 22) dX12_value_22 fl_12_74 (by first | rfl | assumption | exact sh_house (by omega) | exact sh_wish (by omega) | exact sh_wor (by omega) | exact sh_bar (by omega) | exact sh_term (by omega) | exact sh_sheet (by omega) | exact sh_items (by omega) | exact sh_sums (by omega)) rfl ?_
      refine wp_iload_n (pc := 25) dX12_value_25 (by first | rfl | assumption | (repeat first | assumption | rfl | refine aG_n ?_ rfl rfl)) ?_
      skip
      have hI2 := Inv_W2 hI1 o2.w2
      rcases r2 with ⟨h8, h7, hz⟩ | ⟨h8, -, h7, hn⟩
      · have hz' : vG μ.1 g = nov := by rw [← ev]; exact hz.resolve_left (by omega)
        refine wp_zald (pc := 26) dX12_value_26 (by first | rfl | assumption | exact sh_house (by omega) | exact sh_wish (by omega) | exact sh_wor (by omega) | exact sh_bar (by omega) | exact sh_term (by omega) | exact sh_sheet (by omega) | exact sh_items (by omega) | exact sh_sums (by omega)) (vp_in_nI hg (by decide)) ?_
        refine wp_if_eq (pc := 27) (tgt := 39) dX12_value_27 rfl (fun _ => ?_) (fun q => absurd (by rw [cg]; exact h8) q)
        refine wp_sipush (pc := 39) (v := -10004) dX12_value_39 (by decide) ?_
        refine wp_ireturn (pc := 42) dX12_value_42 rfl (by first | rfl | decide | assumption) ?_
        refine qEq ?_ (k' _ hI2)
        rw [if_pos hz']
      · rw [ev] at h7 hn
        refine wp_zald (pc := 26) dX12_value_26 (by first | rfl | assumption | exact sh_house (by omega) | exact sh_wish (by omega) | exact sh_wor (by omega) | exact sh_bar (by omega) | exact sh_term (by omega) | exact sh_sheet (by omega) | exact sh_items (by omega) | exact sh_sums (by omega)) (vp_in_nI hg (by decide)) ?_
        refine wp_if_eq (pc := 27) (tgt := 39) dX12_value_27 rfl (fun q => absurd q (by rw [cg, h8]; decide)) (fun _ => ?_)
        refine wp_aload_n (pc := 30) dX12_value_30 (by first | rfl | assumption | (repeat first | assumption | rfl | refine aG_n ?_ rfl rfl)) ?_
        refine wp_getR (pc := 31) dX12_value_31 fl_12_71 (by first | rfl | assumption | exact sh_house (by omega) | exact sh_wish (by omega) | exact sh_wor (by omega) | exact sh_bar (by omega) | exact sh_term (by omega) | exact sh_sheet (by omega) | exact sh_items (by omega) | exact sh_sums (by omega)) rfl ?_
        refine wp_iload_n (pc := 34) dX12_value_34 (by first | rfl | assumption | (repeat first | assumption | rfl | refine aG_n ?_ rfl rfl)) ?_
        refine wp_iald (pc := 35) dX12_value_35 (by first | rfl | assumption | exact sh_house (by omega) | exact sh_wish (by omega) | exact sh_wor (by omega) | exact sh_bar (by omega) | exact sh_term (by omega) | exact sh_sheet (by omega) | exact sh_items (by omega) | exact sh_sums (by omega)) (vp_in_nI hg (by decide)) ?_
        refine wp_goto (pc := 36) (tgt := 42) dX12_value_36 rfl ?_
        refine wp_ireturn (pc := 42) dX12_value_42 rfl (by first | rfl | decide | assumption) ?_
        refine qEq ?_ (k' _ hI2)
        rw [cg, h7, if_neg hn]
    by_cases cv : vG μ.1 g = nov
    · rw [if_pos cv] at mt
      refine wp_iload_n (pc := 0) dX11_value_0 (by first | rfl | assumption | (repeat first | assumption | rfl | refine aG_n ?_ rfl rfl)) ?_
      refine wp_iconst (pc := 1) (v := 1) dX11_value_1 (by decide) ?_
      refine wp_bipush (pc := 2) (v := 15) dX11_value_2 (by decide) ?_
      refine wp_cS (pc := 4) dX11_value_4 lk_11_112 rfl rfl rfl (c_X11_isWithin (fun _ => aK_i ?_) (fun q => absurd c1 q))
      refine wp_if_ne (pc := 7) (tgt := 14) dX11_value_7 rfl (fun _ => ?_) (fun q => absurd q (by decide))
      refine wp_aload_n (pc := 14) dX11_value_14 (by first | rfl | assumption | (repeat first | assumption | rfl | refine aG_n ?_ rfl rfl)) ?_
      refine wp_getR (pc := 15) dX11_value_15 fl_11_39 (by first | rfl | assumption | exact sh_house (by omega) | exact sh_wish (by omega) | exact sh_wor (by omega) | exact sh_bar (by omega) | exact sh_term (by omega) | exact sh_sheet (by omega) | exact sh_items (by omega) | exact sh_sums (by omega)) rfl ?_
      refine wp_aload_n (pc := 18) dX11_value_18 (by first | rfl | assumption | (repeat first | assumption | rfl | refine aG_n ?_ rfl rfl)) ?_
      refine wp_getR (pc := 19) dX11_value_19 fl_11_11 (by first | rfl | assumption | exact sh_house (by omega) | exact sh_wish (by omega) | exact sh_wor (by omega) | exact sh_bar (by omega) | exact sh_term (by omega) | exact sh_sheet (by omega) | exact sh_items (by omega) | exact sh_sums (by omega)) rfl ?_
      refine wp_iload_n (pc := 22) dX11_value_22 (by first | rfl | assumption | (repeat first | assumption | rfl | refine aG_n ?_ rfl rfl)) ?_
      refine wp_cV (pc := 23) dX11_value_23 lk_11_269 rfl (by decide) rfl (by first | rfl | assumption | exact sh_house (by omega) | exact sh_wish (by omega) | exact sh_wor (by omega) | exact sh_bar (by omega) | exact sh_term (by omega) | exact sh_sheet (by omega) | exact sh_items (by omega) | exact sh_sums (by omega)) rfl rfl ?_
      refine c_X0_valueOf hI.1 hI.2.2.2.2.2.2.2.2.2 hg0 hg (fun μ1 o1 hG1 => aK_i ?_)
      refine wp_istore_n (pc := 26) dX11_value_26 (by decide) ?_
      refine wp_iload_n (pc := 27) dX11_value_27 (by first | rfl | assumption | (repeat first | assumption | rfl | refine aG_n ?_ rfl rfl)) ?_
      refine wp_ldcw (pc := 28) dX11_value_28 cs_11_273 ?_
      refine wp_icmp_ne (pc := 31) (tgt := 40) dX11_value_31 rfl (fun q => absurd cv q) (fun _ => ?_)
      refine wp_sipush (pc := 34) (v := -10004) dX11_value_34 (by decide) ?_
      refine wp_goto (pc := 37) (tgt := 41) dX11_value_37 rfl ?_
      refine wp_ireturn (pc := 41) dX11_value_41 rfl (by first | rfl | decide | assumption) ?_
      exact k _ _ (mt μ1 o1 hG1)
    · rw [if_neg cv] at mt
      refine wp_iload_n (pc := 0) dX11_value_0 (by first | rfl | assumption | (repeat first | assumption | rfl | refine aG_n ?_ rfl rfl)) ?_
      refine wp_iconst (pc := 1) (v := 1) dX11_value_1 (by decide) ?_
      refine wp_bipush (pc := 2) (v := 15) dX11_value_2 (by decide) ?_
      refine wp_cS (pc := 4) dX11_value_4 lk_11_112 rfl rfl rfl (c_X11_isWithin (fun _ => aK_i ?_) (fun q => absurd c1 q))
      refine wp_if_ne (pc := 7) (tgt := 14) dX11_value_7 rfl (fun _ => ?_) (fun q => absurd q (by decide))
      refine wp_aload_n (pc := 14) dX11_value_14 (by first | rfl | assumption | (repeat first | assumption | rfl | refine aG_n ?_ rfl rfl)) ?_
      refine wp_getR (pc := 15) dX11_value_15 fl_11_39 (by first | rfl | assumption | exact sh_house (by omega) | exact sh_wish (by omega) | exact sh_wor (by omega) | exact sh_bar (by omega) | exact sh_term (by omega) | exact sh_sheet (by omega) | exact sh_items (by omega) | exact sh_sums (by omega)) rfl ?_
      refine wp_aload_n (pc := 18) dX11_value_18 (by first | rfl | assumption | (repeat first | assumption | rfl | refine aG_n ?_ rfl rfl)) ?_
      refine wp_getR (pc := 19) dX11_value_19 fl_11_11 (by first | rfl | assumption | exact sh_house (by omega) | exact sh_wish (by omega) | exact sh_wor (by omega) | exact sh_bar (by omega) | exact sh_term (by omega) | exact sh_sheet (by omega) | exact sh_items (by omega) | exact sh_sums (by omega)) rfl ?_
      refine wp_iload_n (pc := 22) dX11_value_22 (by first | rfl | assumption | (repeat first | assumption | rfl | refine aG_n ?_ rfl rfl)) ?_
      refine wp_cV (pc := 23) dX11_value_23 lk_11_269 rfl (by decide) rfl (by first | rfl | assumption | exact sh_house (by omega) | exact sh_wish (by omega) | exact sh_wor (by omega) | exact sh_bar (by omega) | exact sh_term (by omega) | exact sh_sheet (by omega) | exact sh_items (by omega) | exact sh_sums (by omega)) rfl rfl ?_
      refine c_X0_valueOf hI.1 hI.2.2.2.2.2.2.2.2.2 hg0 hg (fun μ1 o1 hG1 => aK_i ?_)
      refine wp_istore_n (pc := 26) dX11_value_26 (by decide) ?_
      refine wp_iload_n (pc := 27) dX11_value_27 (by first | rfl | assumption | (repeat first | assumption | rfl | refine aG_n ?_ rfl rfl)) ?_
      refine wp_ldcw (pc := 28) dX11_value_28 cs_11_273 ?_
      refine wp_icmp_ne (pc := 31) (tgt := 40) dX11_value_31 rfl (fun _ => ?_) (fun q => absurd q cv)
      refine wp_iload_n (pc := 40) dX11_value_40 (by first | rfl | assumption | (repeat first | assumption | rfl | refine aG_n ?_ rfl rfl)) ?_
      refine wp_ireturn (pc := 41) dX11_value_41 rfl (by first | rfl | decide | assumption) ?_
      exact k _ _ (mt μ1 o1 hG1)
  · refine wp_iload_n (pc := 0) dX11_value_0 (by first | rfl | assumption | (repeat first | assumption | rfl | refine aG_n ?_ rfl rfl)) ?_
    refine wp_iconst (pc := 1) (v := 1) dX11_value_1 (by decide) ?_
    refine wp_bipush (pc := 2) (v := 15) dX11_value_2 (by decide) ?_
    refine wp_cS (pc := 4) dX11_value_4 lk_11_112 rfl rfl rfl (c_X11_isWithin (fun q => absurd q c1) (fun _ => aK_i ?_))
    refine wp_if_ne (pc := 7) (tgt := 14) dX11_value_7 rfl (fun q => absurd q (by decide)) (fun _ => ?_)
    refine wp_sipush (pc := 10) (v := -10001) dX11_value_10 (by decide) ?_
    refine wp_ireturn (pc := 13) dX11_value_13 rfl (by first | rfl | decide | assumption) ?_
    refine k _ _ (fun Q' k' => ?_)
    refine wp_iload_n (pc := 0) dX12_value_0 (by first | rfl | assumption | (repeat first | assumption | rfl | refine aG_n ?_ rfl rfl)) ?_
    refine wp_i2l (pc := 1) dX12_value_1 ?_
    refine wp_lconst (pc := 2) (v := 1) dX12_value_2 (by decide) ?_
    refine wp_ldc2 (pc := 3) dX12_value_3 cl_12_307 ?_
    refine wp_cS (pc := 6) dX12_value_6 lk_12_133 rfl rfl rfl (c_X12_in (fun q => absurd q (by rw [w_int]; exact c1)) (fun _ => aK_i ?_))
    refine wp_if_ne (pc := 9) (tgt := 16) dX12_value_9 rfl (fun q => absurd q (by decide)) (fun _ => ?_)
    refine wp_sipush (pc := 12) (v := -10001) dX12_value_12 (by decide) ?_
    refine wp_ireturn (pc := 15) dX12_value_15 rfl (by first | rfl | decide | assumption) ?_
    exact k' _ hI
/-! unrest -/
def wsF (M : MM) (g : Nat) : Nat → Int32
  | 0 => 0
  | n + 1 => if g.testBit n = true then wsF M g n + M (57 + 4 * n) (th M n) else wsF M g n
def bbV (M : MM) (g : Nat) : Int32 := if vG M g = nov then 0 else vG M g - wsF M g 4
theorem wsF_c {M M' : MM} (h : ∀ c, (57 ≤ c ∧ c ≤ 70) ∨ c = 87 → M' c = M c) (g : Nat) : ∀ n, n ≤ 4 → wsF M' g n = wsF M g n
  | 0, _ => rfl
  | n + 1, hn => by unfold wsF; rw [wsF_c h g n (by omega), h (57 + 4 * n) (by omega), show th M' n = th M n from by unfold th; rw [h 87 (by omega)]]
theorem bbV_c {M M' : MM} (h : ∀ c, (57 ≤ c ∧ c ≤ 70) ∨ c = 87 → M' c = M c) (g : Nat) : bbV M' g = bbV M g := by
  unfold bbV; rw [vG_c h g, wsF_c h g 4 (by omega)]
section BETTER
variable {X : aX} {μ : Mm} {Q : Option Value → Mm → Prop} {g : Nat}
theorem l_bb {v : Int32} (hO : I_own μ.1) (hg : g < 16) (k : Q (some (.int (v - wsF μ.1 g 4))) μ) : ∀ (f h : Nat), h + f = 4 → ∀ L : aL, aL_get L 1 = some (.ref 1) → aL_get L 2 = some (.int (nI g)) → aL_get L 3 = some (.int (v - wsF μ.1 g h)) → aL_get L 4 = some (.int (nI h)) → WP X mX0_betterBy 18 L [] μ Q
  | 0, h, hh, L, g1, g2, g3, g4 => by
    obtain rfl : h = 4 := by omega
    refine wp_iload (pc := 18) dX0_betterBy_18 (by first | rfl | assumption | (repeat first | assumption | rfl | refine aG_n ?_ rfl rfl)) ?_
    refine wp_iconst (pc := 20) (v := 4) dX0_betterBy_20 (by decide) ?_
    refine wp_icmp_ge (pc := 21) (tgt := 60) dX0_betterBy_21 rfl (fun _ => ?_) (fun q => absurd (nI_le (a := 4) (b := 4) (by omega) (by omega)) q)
    refine wp_iload_n (pc := 60) dX0_betterBy_60 (by first | rfl | assumption | (repeat first | assumption | rfl | refine aG_n ?_ rfl rfl)) ?_
    refine wp_ireturn (pc := 61) dX0_betterBy_61 rfl (by first | rfl | decide | assumption) ?_
    exact k
  | f + 1, h, hh, L, g1, g2, g3, g4 => by
    by_cases hb : g.testBit h = true
    · have et := hO.2 h (by omega)
      have ct : (μ.1 (55 + 4 * h) 0).toNatClampNeg = th μ.1 h := by rw [et]; exact nI_clamp (Nat.lt_trans (th_lt _ _) (by decide))
      have e : v - wsF μ.1 g h - μ.1 (57 + 4 * h) (th μ.1 h) = v - wsF μ.1 g (h + 1) := by
        rw [show wsF μ.1 g (h + 1) = wsF μ.1 g h + μ.1 (57 + 4 * h) (th μ.1 h) from if_pos hb]; exact Int32.sub_sub _ _ _
      refine wp_iload (pc := 18) dX0_betterBy_18 (by first | rfl | assumption | (repeat first | assumption | rfl | refine aG_n ?_ rfl rfl)) ?_
      refine wp_iconst (pc := 20) (v := 4) dX0_betterBy_20 (by decide) ?_
      refine wp_icmp_ge (pc := 21) (tgt := 60) dX0_betterBy_21 rfl (fun q => absurd q (nI_ge (a := h) (b := 4) (by omega) (by omega))) (fun _ => ?_)
      refine wp_iload_n (pc := 24) dX0_betterBy_24 (by first | rfl | assumption | (repeat first | assumption | rfl | refine aG_n ?_ rfl rfl)) ?_
      refine wp_iload (pc := 25) dX0_betterBy_25 (by first | rfl | assumption | (repeat first | assumption | rfl | refine aG_n ?_ rfl rfl)) ?_
      refine wp_cS (pc := 27) dX0_betterBy_27 lk_0_32 rfl rfl rfl (c_X11_hasBit rfl (show g < 64 by omega) (by omega) (fun _ => aK_i ?_) (fun q => absurd hb q))
      refine wp_if_eq (pc := 30) (tgt := 54) dX0_betterBy_30 rfl (fun q => absurd q (by decide)) (fun _ => ?_)
      refine wp_iload_n (pc := 33) dX0_betterBy_33 (by first | rfl | assumption | (repeat first | assumption | rfl | refine aG_n ?_ rfl rfl)) ?_
      refine wp_aload_n (pc := 34) dX0_betterBy_34 (by first | rfl | assumption | (repeat first | assumption | rfl | refine aG_n ?_ rfl rfl)) ?_
      refine wp_iload (pc := 35) dX0_betterBy_35 (by first | rfl | assumption | (repeat first | assumption | rfl | refine aG_n ?_ rfl rfl)) ?_
      refine wp_aald (pc := 37) dX0_betterBy_37 (by first | rfl | assumption | exact sh_house (by omega) | exact sh_wish (by omega) | exact sh_wor (by omega) | exact sh_bar (by omega) | exact sh_term (by omega) | exact sh_sheet (by omega) | exact sh_items (by omega) | exact sh_sums (by omega)) (vp_in_nI (by omega) (by decide)) (by decide) (el_house (by omega)) ?_
      refine wp_getR (pc := 38) dX0_betterBy_38 fl_0_36 (by first | rfl | assumption | exact sh_house (by omega) | exact sh_wish (by omega) | exact sh_wor (by omega) | exact sh_bar (by omega) | exact sh_term (by omega) | exact sh_sheet (by omega) | exact sh_items (by omega) | exact sh_sums (by omega)) rfl ?_
      refine wp_getR (pc := 41) dX0_betterBy_41 fl_0_42 (by first | rfl | assumption | exact sh_house (by omega) | exact sh_wish (by omega) | exact sh_wor (by omega) | exact sh_bar (by omega) | exact sh_term (by omega) | exact sh_sheet (by omega) | exact sh_items (by omega) | exact sh_sums (by omega)) rfl ?_
      refine wp_aload_n (pc := 44) dX0_betterBy_44 (by first | rfl | assumption | (repeat first | assumption | rfl | refine aG_n ?_ rfl rfl)) ?_
      refine wp_iload (pc := 45) dX0_betterBy_45 (by first | rfl | assumption | (repeat first | assumption | rfl | refine aG_n ?_ rfl rfl)) ?_
      refine wp_aald (pc := 47) dX0_betterBy_47 (by first | rfl | assumption | exact sh_house (by omega) | exact sh_wish (by omega) | exact sh_wor (by omega) | exact sh_bar (by omega) | exact sh_term (by omega) | exact sh_sheet (by omega) | exact sh_items (by omega) | exact sh_sums (by omega)) (vp_in_nI (by omega) (by decide)) (by decide) (el_house (by omega)) ?_
      refine wp_getI (pc := 48) dX0_betterBy_48 fl_0_48 (by first | rfl | assumption | exact sh_house (by omega) | exact sh_wish (by omega) | exact sh_wor (by omega) | exact sh_bar (by omega) | exact sh_term (by omega) | exact sh_sheet (by omega) | exact sh_items (by omega) | exact sh_sums (by omega)) rfl ?_
      refine wp_iald (pc := 51) dX0_betterBy_51 (by first | rfl | assumption | exact sh_house (by omega) | exact sh_wish (by omega) | exact sh_wor (by omega) | exact sh_bar (by omega) | exact sh_term (by omega) | exact sh_sheet (by omega) | exact sh_items (by omega) | exact sh_sums (by omega)) (by rw [et]; exact vp_in_nI (th_lt _ _) (by decide)) ?_
      refine wp_isub (pc := 52) dX0_betterBy_52 ?_
      refine wp_istore_n (pc := 53) dX0_betterBy_53 (by decide) ?_
      refine wp_iinc (pc := 54) dX0_betterBy_54 (by decide) (by first | rfl | assumption | (repeat first | assumption | rfl | refine aG_n ?_ rfl rfl)) rfl ?_
      refine wp_goto (pc := 57) (tgt := 18) dX0_betterBy_57 rfl ?_
      exact l_bb hO hg k f (h + 1) (by omega) _ (by first | rfl | assumption | (repeat first | assumption | rfl | refine aG_n ?_ rfl rfl)) (by first | rfl | assumption | (repeat first | assumption | rfl | refine aG_n ?_ rfl rfl)) (by rw [← e, ← ct]; simp only [ct]; first | rfl | assumption | (repeat first | assumption | rfl | refine aG_n ?_ rfl rfl)) (by rw [← nI_i1]; first | rfl | assumption | (repeat first | assumption | rfl | refine aG_n ?_ rfl rfl))
    · have e : wsF μ.1 g (h + 1) = wsF μ.1 g h := if_neg hb
      refine wp_iload (pc := 18) dX0_betterBy_18 (by first | rfl | assumption | (repeat first | assumption | rfl | refine aG_n ?_ rfl rfl)) ?_
      refine wp_iconst (pc := 20) (v := 4) dX0_betterBy_20 (by decide) ?_
      refine wp_icmp_ge (pc := 21) (tgt := 60) dX0_betterBy_21 rfl (fun q => absurd q (nI_ge (a := h) (b := 4) (by omega) (by omega))) (fun _ => ?_)
      refine wp_iload_n (pc := 24) dX0_betterBy_24 (by first | rfl | assumption | (repeat first | assumption | rfl | refine aG_n ?_ rfl rfl)) ?_
      refine wp_iload (pc := 25) dX0_betterBy_25 (by first | rfl | assumption | (repeat first | assumption | rfl | refine aG_n ?_ rfl rfl)) ?_
      refine wp_cS (pc := 27) dX0_betterBy_27 lk_0_32 rfl rfl rfl (c_X11_hasBit rfl (show g < 64 by omega) (by omega) (fun q => absurd q hb) (fun _ => aK_i ?_))
      refine wp_if_eq (pc := 30) (tgt := 54) dX0_betterBy_30 rfl (fun _ => ?_) (fun q => absurd q (by decide))
      refine wp_iinc (pc := 54) dX0_betterBy_54 (by decide) (by first | rfl | assumption | (repeat first | assumption | rfl | refine aG_n ?_ rfl rfl)) rfl ?_
      refine wp_goto (pc := 57) (tgt := 18) dX0_betterBy_57 rfl ?_
      exact l_bb hO hg k f (h + 1) (by omega) _ (by first | rfl | assumption | (repeat first | assumption | rfl | refine aG_n ?_ rfl rfl)) (by first | rfl | assumption | (repeat first | assumption | rfl | refine aG_n ?_ rfl rfl)) (by rw [e]; first | rfl | assumption | (repeat first | assumption | rfl | refine aG_n ?_ rfl rfl)) (by rw [← nI_i1]; first | rfl | assumption | (repeat first | assumption | rfl | refine aG_n ?_ rfl rfl))
theorem c_X0_betterBy (hO : I_own μ.1) (hG : I_grp μ.1) (hg0 : 0 < g) (hg : g < 16) (k : ∀ μ', offS μ μ' → I_grp μ'.1 → Q (some (.int (bbV μ.1 g))) μ') : WP X mX0_betterBy 0 (lv_args 0 [.ref 11, .ref 1, .int (nI g)]) [] μ Q := by
  unfold bbV at k
  by_cases c : vG μ.1 g = nov
  · rw [if_pos c] at k
    refine wp_aload_n (pc := 0) dX0_betterBy_0 (by first | rfl | assumption | (repeat first | assumption | rfl | refine aG_n ?_ rfl rfl)) ?_
    refine wp_aload_n (pc := 1) dX0_betterBy_1 (by first | rfl | assumption | (repeat first | assumption | rfl | refine aG_n ?_ rfl rfl)) ?_
    refine wp_iload_n (pc := 2) dX0_betterBy_2 (by first | rfl | assumption | (repeat first | assumption | rfl | refine aG_n ?_ rfl rfl)) ?_
    refine wp_cV (pc := 3) dX0_betterBy_3 lk_0_28 rfl (by decide) rfl (by first | rfl | assumption | exact sh_house (by omega) | exact sh_wish (by omega) | exact sh_wor (by omega) | exact sh_bar (by omega) | exact sh_term (by omega) | exact sh_sheet (by omega) | exact sh_items (by omega) | exact sh_sums (by omega)) rfl rfl ?_
    refine c_X0_valueOf hO hG hg0 hg (fun μ1 o1 hG1 => aK_i ?_)
    refine wp_istore_n (pc := 6) dX0_betterBy_6 (by decide) ?_
    refine wp_iload_n (pc := 7) dX0_betterBy_7 (by first | rfl | assumption | (repeat first | assumption | rfl | refine aG_n ?_ rfl rfl)) ?_
    refine wp_ldc (pc := 8) dX0_betterBy_8 cs_0_31 ?_
    refine wp_icmp_ne (pc := 10) (tgt := 15) dX0_betterBy_10 rfl (fun q => absurd c q) (fun _ => ?_)
    refine wp_iconst (pc := 13) (v := 0) dX0_betterBy_13 (by decide) ?_
    refine wp_ireturn (pc := 14) dX0_betterBy_14 rfl (by first | rfl | decide | assumption) ?_
    exact k _ o1 hG1
  · rw [if_neg c] at k
    refine wp_aload_n (pc := 0) dX0_betterBy_0 (by first | rfl | assumption | (repeat first | assumption | rfl | refine aG_n ?_ rfl rfl)) ?_
    refine wp_aload_n (pc := 1) dX0_betterBy_1 (by first | rfl | assumption | (repeat first | assumption | rfl | refine aG_n ?_ rfl rfl)) ?_
    refine wp_iload_n (pc := 2) dX0_betterBy_2 (by first | rfl | assumption | (repeat first | assumption | rfl | refine aG_n ?_ rfl rfl)) ?_
    refine wp_cV (pc := 3) dX0_betterBy_3 lk_0_28 rfl (by decide) rfl (by first | rfl | assumption | exact sh_house (by omega) | exact sh_wish (by omega) | exact sh_wor (by omega) | exact sh_bar (by omega) | exact sh_term (by omega) | exact sh_sheet (by omega) | exact sh_items (by omega) | exact sh_sums (by omega)) rfl rfl ?_
    refine c_X0_valueOf hO hG hg0 hg (fun μ1 o1 hG1 => aK_i ?_)
    refine wp_istore_n (pc := 6) dX0_betterBy_6 (by decide) ?_
    refine wp_iload_n (pc := 7) dX0_betterBy_7 (by first | rfl | assumption | (repeat first | assumption | rfl | refine aG_n ?_ rfl rfl)) ?_
    refine wp_ldc (pc := 8) dX0_betterBy_8 cs_0_31 ?_
    refine wp_icmp_ne (pc := 10) (tgt := 15) dX0_betterBy_10 rfl (fun _ => ?_) (fun q => absurd q c)
    refine wp_iconst (pc := 15) (v := 0) dX0_betterBy_15 (by decide) ?_
    refine wp_istore (pc := 16) dX0_betterBy_16 (by decide) ?_
    skip
    have hO1 : I_own μ1.1 := own_c (o1.1 _ (by omega)) (fun i hi => congrFun (o1.1 _ (by omega)) 0) hO
    have ew := wsF_c (M := μ.1) (M' := μ1.1) (fun c hc => o1.1 c (by omega)) g 4 (by omega)
    exact l_bb (v := vG μ.1 g) hO1 hg (by rw [ew]; exact k _ o1 hG1) 4 0 (by omega) _ (by first | rfl | assumption | (repeat first | assumption | rfl | refine aG_n ?_ rfl rfl)) (by first | rfl | assumption | (repeat first | assumption | rfl | refine aG_n ?_ rfl rfl)) (by rw [show wsF μ1.1 g 0 = 0 from rfl, Int32.sub_zero]; first | rfl | assumption | (repeat first | assumption | rfl | refine aG_n ?_ rfl rfl)) (by first | rfl | assumption | (repeat first | assumption | rfl | refine aG_n ?_ rfl rfl))
theorem l_bbM (hW : I_wish μ.1) (hg : g < 16) (k : ∀ L : aL, aL_get L 0 = some (.ref 86) → aL_get L 1 = some (.int (nI g)) → aL_get L 2 = some (.int (wsF μ.1 g 4)) → WP X mX12_betterBy 46 L [] μ Q) : ∀ (f h : Nat), h + f = 4 → ∀ L : aL, aL_get L 0 = some (.ref 86) → aL_get L 1 = some (.int (nI g)) → aL_get L 2 = some (.int (wsF μ.1 g h)) → aL_get L 3 = some (.int (nI h)) → WP X mX12_betterBy 9 L [] μ Q
  | 0, h, hh, L, g0, g1, g2, g3 => by
    obtain rfl : h = 4 := by omega
    refine wp_iload_n (pc := 9) dX12_betterBy_9 (by first | rfl | assumption | (repeat first | assumption | rfl | refine aG_n ?_ rfl rfl)) ?_
    refine wp_iconst (pc := 10) (v := 4) dX12_betterBy_10 (by decide) ?_
    refine wp_icmp_ge (pc := 11) (tgt := 46) dX12_betterBy_11 rfl (fun _ => ?_) (fun q => absurd (nI_le (a := 4) (b := 4) (by omega) (by omega)) q)
    exact k _ g0 g1 g2
  | f + 1, h, hh, L, g0, g1, g2, g3 => by
    by_cases hb : g.testBit h = true
    · have e : wsF μ.1 g h + μ.1 (57 + 4 * h) (th μ.1 h) = wsF μ.1 g (h + 1) := by show _ = (if _ then _ else _); rw [if_pos hb]
      refine wp_iload_n (pc := 9) dX12_betterBy_9 (by first | rfl | assumption | (repeat first | assumption | rfl | refine aG_n ?_ rfl rfl)) ?_
      refine wp_iconst (pc := 10) (v := 4) dX12_betterBy_10 (by decide) ?_
      refine wp_icmp_ge (pc := 11) (tgt := 46) dX12_betterBy_11 rfl (fun q => absurd q (nI_ge (a := h) (b := 4) (by omega) (by omega))) (fun _ => ?_)
      refine wp_iload_n (pc := 14) dX12_betterBy_14 (by first | rfl | assumption | (repeat first | assumption | rfl | refine aG_n ?_ rfl rfl)) ?_
      refine wp_iload_n (pc := 15) dX12_betterBy_15 (by first | rfl | assumption | (repeat first | assumption | rfl | refine aG_n ?_ rfl rfl)) ?_
      refine wp_iload_n (pc := 16) dX12_betterBy_16 (by first | rfl | assumption | (repeat first | assumption | rfl | refine aG_n ?_ rfl rfl)) ?_
      refine wp_ishr (pc := 17) dX12_betterBy_17 ?_
      refine wp_iconst (pc := 18) (v := 1) dX12_betterBy_18 (by decide) ?_
      refine wp_iand (pc := 19) dX12_betterBy_19 ?_
      refine wp_iconst (pc := 20) (v := 1) dX12_betterBy_20 (by decide) ?_
      refine wp_icmp_ne (pc := 21) (tgt := 37) dX12_betterBy_21 rfl (fun q => absurd ((bit_i g (by omega) h (by omega)).mpr hb) q) (fun _ => ?_)
      refine wp_aload_n (pc := 24) dX12_betterBy_24 (by first | rfl | assumption | (repeat first | assumption | rfl | refine aG_n ?_ rfl rfl)) ?_
      refine wp_iload_n (pc := 25) dX12_betterBy_25 (by first | rfl | assumption | (repeat first | assumption | rfl | refine aG_n ?_ rfl rfl)) ?_
      refine wp_aload_n (pc := 26) dX12_betterBy_26 (by first | rfl | assumption | (repeat first | assumption | rfl | refine aG_n ?_ rfl rfl)) ?_
      refine wp_iload_n (pc := 27) dX12_betterBy_27 (by first | rfl | assumption | (repeat first | assumption | rfl | refine aG_n ?_ rfl rfl)) ?_
      refine wp_cV (pc := 28) dX12_betterBy_28 lk_12_208 rfl (by decide) rfl (by first | rfl | assumption | exact sh_house (by omega) | exact sh_wish (by omega) | exact sh_wor (by omega) | exact sh_bar (by omega) | exact sh_term (by omega) | exact sh_sheet (by omega) | exact sh_items (by omega) | exact sh_sums (by omega)) rfl rfl (c_X12_thingsOf (aK_i ?_))
      refine wp_cV (pc := 31) dX12_betterBy_31 lk_12_200 rfl (by decide) rfl (by first | rfl | assumption | exact sh_house (by omega) | exact sh_wish (by omega) | exact sh_wor (by omega) | exact sh_bar (by omega) | exact sh_term (by omega) | exact sh_sheet (by omega) | exact sh_items (by omega) | exact sh_sums (by omega)) rfl rfl (m_worth hW (show h < 4 by omega) (th_lt μ.1 h) rfl (aK_i ?_))
      refine wp_goto (pc := 34) (tgt := 38) dX12_betterBy_34 rfl ?_
      refine wp_iadd (pc := 38) dX12_betterBy_38 ?_
      refine wp_istore_n (pc := 39) dX12_betterBy_39 (by decide) ?_
      refine wp_iinc (pc := 40) dX12_betterBy_40 (by decide) (by first | rfl | assumption | (repeat first | assumption | rfl | refine aG_n ?_ rfl rfl)) rfl ?_
      refine wp_goto (pc := 43) (tgt := 9) dX12_betterBy_43 rfl ?_
      exact l_bbM hW hg k f (h + 1) (by omega) _ (by first | rfl | assumption | (repeat first | assumption | rfl | refine aG_n ?_ rfl rfl)) (by first | rfl | assumption | (repeat first | assumption | rfl | refine aG_n ?_ rfl rfl)) (by rw [← e]; first | rfl | assumption | (repeat first | assumption | rfl | refine aG_n ?_ rfl rfl)) (by rw [← nI_i1]; first | rfl | assumption | (repeat first | assumption | rfl | refine aG_n ?_ rfl rfl))
    · have e : wsF μ.1 g h + 0 = wsF μ.1 g (h + 1) := by show _ = (if _ then _ else _); rw [if_neg hb]; exact Int32.add_zero _
      refine wp_iload_n (pc := 9) dX12_betterBy_9 (by first | rfl | assumption | (repeat first | assumption | rfl | refine aG_n ?_ rfl rfl)) ?_
      refine wp_iconst (pc := 10) (v := 4) dX12_betterBy_10 (by decide) ?_
      refine wp_icmp_ge (pc := 11) (tgt := 46) dX12_betterBy_11 rfl (fun q => absurd q (nI_ge (a := h) (b := 4) (by omega) (by omega))) (fun _ => ?_)
      refine wp_iload_n (pc := 14) dX12_betterBy_14 (by first | rfl | assumption | (repeat first | assumption | rfl | refine aG_n ?_ rfl rfl)) ?_
      refine wp_iload_n (pc := 15) dX12_betterBy_15 (by first | rfl | assumption | (repeat first | assumption | rfl | refine aG_n ?_ rfl rfl)) ?_
      refine wp_iload_n (pc := 16) dX12_betterBy_16 (by first | rfl | assumption | (repeat first | assumption | rfl | refine aG_n ?_ rfl rfl)) ?_
      refine wp_ishr (pc := 17) dX12_betterBy_17 ?_
      refine wp_iconst (pc := 18) (v := 1) dX12_betterBy_18 (by decide) ?_
      refine wp_iand (pc := 19) dX12_betterBy_19 ?_
      refine wp_iconst (pc := 20) (v := 1) dX12_betterBy_20 (by decide) ?_
      refine wp_icmp_ne (pc := 21) (tgt := 37) dX12_betterBy_21 rfl (fun _ => ?_) (fun q => absurd q (fun z => hb ((bit_i g (by omega) h (by omega)).mp z)))
      refine wp_iconst (pc := 37) (v := 0) dX12_betterBy_37 (by decide) ?_
      refine wp_iadd (pc := 38) dX12_betterBy_38 ?_
      refine wp_istore_n (pc := 39) dX12_betterBy_39 (by decide) ?_
      refine wp_iinc (pc := 40) dX12_betterBy_40 (by decide) (by first | rfl | assumption | (repeat first | assumption | rfl | refine aG_n ?_ rfl rfl)) rfl ?_
      refine wp_goto (pc := 43) (tgt := 9) dX12_betterBy_43 rfl ?_
      exact l_bbM hW hg k f (h + 1) (by omega) _ (by first | rfl | assumption | (repeat first | assumption | rfl | refine aG_n ?_ rfl rfl)) (by first | rfl | assumption | (repeat first | assumption | rfl | refine aG_n ?_ rfl rfl)) (by rw [← e]; first | rfl | assumption | (repeat first | assumption | rfl | refine aG_n ?_ rfl rfl)) (by rw [← nI_i1]; first | rfl | assumption | (repeat first | assumption | rfl | refine aG_n ?_ rfl rfl))
theorem c_X12_betterBy (hW : I_wish μ.1) (hg0 : 0 < g) (hg : g < 16) (k : ∀ μ', offW2 μ μ' → Q (some (.int (bbV μ.1 g))) μ') : WP X mX12_betterBy 0 (lv_args 0 [.ref 86, .int (nI g)]) [] μ Q := by
  have cg : (nI g).toNatClampNeg = g := nI_clamp (by omega)
  unfold bbV at k
  refine wp_aload_n (pc := 0) dX12_betterBy_0 (by first | rfl | assumption | (repeat first | assumption | rfl | refine aG_n ?_ rfl rfl)) ?_
  refine wp_iload_n (pc := 1) dX12_betterBy_1 (by first | rfl | assumption | (repeat first | assumption | rfl | refine aG_n ?_ rfl rfl)) ?_
  refine wp_cV (pc := 2) dX12_betterBy_2 lk_12_309 rfl (by decide) rfl (by first | rfl | assumption | exact sh_house (by omega) | exact sh_wish (by omega) | exact sh_wor (by omega) | exact sh_bar (by omega) | exact sh_term (by omega) | exact sh_sheet (by omega) | exact sh_items (by omega) | exact sh_sums (by omega)) rfl rfl ?_
  refine c_X12_findValue hW hg (fun μ2 o2 r2 => aK_v ?_)
  refine wp_iconst (pc := 5) (v := 0) dX12_betterBy_5 (by decide) ?_
  refine wp_istore_n (pc := 6) dX12_betterBy_6 (by decide) ?_
  refine wp_iconst (pc := 7) (v := 0) dX12_betterBy_7 (by decide) ?_
  refine wp_istore_n (pc := 8) dX12_betterBy_8 (by decide) ?_
  skip
  have ew := wsF_c (M := μ.1) (M' := μ2.1) (fun c hc => o2.row (by omega)) g 4 (by omega)
  refine l_bbM (o2.wish hW) hg (fun L g0 g1 g2 => ?_) 4 0 (by omega) _ (by first | rfl | assumption | (repeat first | assumption | rfl | refine aG_n ?_ rfl rfl)) (by first | rfl | assumption | (repeat first | assumption | rfl | refine aG_n ?_ rfl rfl)) (by first | rfl | assumption | (repeat first | assumption | rfl | refine aG_n ?_ rfl rfl)) (by first | rfl | assumption | (repeat first | assumption | rfl | refine aG_n ?_ rfl rfl))
  rw [ew] at g2
  rcases r2 with ⟨h8, h7, hz⟩ | ⟨h8, -, h7, hn⟩
  · have hz' := hz.resolve_left (by omega)
    rw [if_pos hz'] at k
    refine wp_aload_n (pc := 46) dX12_betterBy_46 (by first | rfl | assumption | (repeat first | assumption | rfl | refine aG_n ?_ rfl rfl)) ?_
    refine wp_getR (pc := 47) dX12_betterBy_47 fl_12_74 (by first | rfl | assumption | exact sh_house (by omega) | exact sh_wish (by omega) | exact sh_wor (by omega) | exact sh_bar (by omega) | exact sh_term (by omega) | exact sh_sheet (by omega) | exact sh_items (by omega) | exact sh_sums (by omega)) rfl ?_
    refine wp_iload_n (pc := 50) dX12_betterBy_50 (by first | rfl | assumption | (repeat first | assumption | rfl | refine aG_n ?_ rfl rfl)) ?_
    refine wp_zald (pc := 51) dX12_betterBy_51 (by first | rfl | assumption | exact sh_house (by omega) | exact sh_wish (by omega) | exact sh_wor (by omega) | exact sh_bar (by omega) | exact sh_term (by omega) | exact sh_sheet (by omega) | exact sh_items (by omega) | exact sh_sums (by omega)) (vp_in_nI hg (by decide)) ?_
    refine wp_if_eq (pc := 52) (tgt := 66) dX12_betterBy_52 rfl (fun _ => ?_) (fun q => absurd (by rw [cg]; exact h8) q)
    refine wp_iconst (pc := 66) (v := 0) dX12_betterBy_66 (by decide) ?_
    refine wp_ireturn (pc := 67) dX12_betterBy_67 rfl (by first | rfl | decide | assumption) ?_
    exact k _ o2.w2
  · rw [if_neg hn] at k
    refine wp_aload_n (pc := 46) dX12_betterBy_46 (by first | rfl | assumption | (repeat first | assumption | rfl | refine aG_n ?_ rfl rfl)) ?_
    refine wp_getR (pc := 47) dX12_betterBy_47 fl_12_74 (by first | rfl | assumption | exact sh_house (by omega) | exact sh_wish (by omega) | exact sh_wor (by omega) | exact sh_bar (by omega) | exact sh_term (by omega) | exact sh_sheet (by omega) | exact sh_items (by omega) | exact sh_sums (by omega)) rfl ?_
    refine wp_iload_n (pc := 50) dX12_betterBy_50 (by first | rfl | assumption | (repeat first | assumption | rfl | refine aG_n ?_ rfl rfl)) ?_
    refine wp_zald (pc := 51) dX12_betterBy_51 (by first | rfl | assumption | exact sh_house (by omega) | exact sh_wish (by omega) | exact sh_wor (by omega) | exact sh_bar (by omega) | exact sh_term (by omega) | exact sh_sheet (by omega) | exact sh_items (by omega) | exact sh_sums (by omega)) (vp_in_nI hg (by decide)) ?_
    refine wp_if_eq (pc := 52) (tgt := 66) dX12_betterBy_52 rfl (fun q => absurd q (by rw [cg, h8]; decide)) (fun _ => ?_)
    refine wp_aload_n (pc := 55) dX12_betterBy_55 (by first | rfl | assumption | (repeat first | assumption | rfl | refine aG_n ?_ rfl rfl)) ?_
    refine wp_getR (pc := 56) dX12_betterBy_56 fl_12_71 (by first | rfl | assumption | exact sh_house (by omega) | exact sh_wish (by omega) | exact sh_wor (by omega) | exact sh_bar (by omega) | exact sh_term (by omega) | exact sh_sheet (by omega) | exact sh_items (by omega) | exact sh_sums (by omega)) rfl ?_
    refine wp_iload_n (pc := 59) dX12_betterBy_59 (by first | rfl | assumption | (repeat first | assumption | rfl | refine aG_n ?_ rfl rfl)) ?_
    refine wp_iald (pc := 60) dX12_betterBy_60 (by first | rfl | assumption | exact sh_house (by omega) | exact sh_wish (by omega) | exact sh_wor (by omega) | exact sh_bar (by omega) | exact sh_term (by omega) | exact sh_sheet (by omega) | exact sh_items (by omega) | exact sh_sums (by omega)) (vp_in_nI hg (by decide)) ?_
    refine wp_iload_n (pc := 61) dX12_betterBy_61 (by first | rfl | assumption | (repeat first | assumption | rfl | refine aG_n ?_ rfl rfl)) ?_
    refine wp_isub (pc := 62) dX12_betterBy_62 ?_
    refine wp_goto (pc := 63) (tgt := 67) dX12_betterBy_63 rfl ?_
    refine wp_ireturn (pc := 67) dX12_betterBy_67 rfl (by first | rfl | decide | assumption) ?_
    rw [cg, h7]; exact k _ o2.w2
def uF (M : MM) : Nat → Int32
  | 0 => 0
  | n + 1 => if uF M n < bbV M (n + 1) then bbV M (n + 1) else uF M n
theorem own_S {μ μ' : Mm} (h : offS μ μ') (hO : I_own μ.1) : I_own μ'.1 := own_c (h.1 _ (by omega)) (fun i hi => congrFun (h.1 _ (by omega)) 0) hO
theorem offS.tr {μ μ' μ'' : Mm} (h : offS μ μ') (h' : offS μ' μ'') : offS μ μ'' := ⟨fun c hc => (h'.1 c hc).trans (h.1 c hc), h'.2.trans h.2⟩
theorem l_unr (hO : I_own μ.1) (k : ∀ μ', offS μ μ' → I_grp μ'.1 → Q (some (.int (uF μ.1 15))) μ') : ∀ (f n : Nat), n + f = 15 → ∀ μ', offS μ μ' → I_grp μ'.1 → ∀ L : aL, aL_get L 0 = some (.ref 0) → aL_get L 1 = some (.int (uF μ.1 n)) → aL_get L 2 = some (.int (nI (n + 1))) → WP X mX11_unrest 4 L [] μ' Q
  | 0, n, hn, μ', ho, hG, L, g0, g1, g2 => by
    obtain rfl : n = 15 := by omega
    refine wp_iload_n (pc := 4) dX11_unrest_4 (by first | rfl | assumption | (repeat first | assumption | rfl | refine aG_n ?_ rfl rfl)) ?_
    refine wp_bipush (pc := 5) (v := 16) dX11_unrest_5 (by decide) ?_
    refine wp_icmp_ge (pc := 7) (tgt := 33) dX11_unrest_7 rfl (fun _ => ?_) (fun q => absurd (nI_le (a := 16) (b := 16) (by omega) (by omega)) q)
    refine wp_iload_n (pc := 33) dX11_unrest_33 (by first | rfl | assumption | (repeat first | assumption | rfl | refine aG_n ?_ rfl rfl)) ?_
    refine wp_ireturn (pc := 34) dX11_unrest_34 rfl (by first | rfl | decide | assumption) ?_
    exact k _ ho hG
  | f + 1, n, hn, μ', ho, hG, L, g0, g1, g2 => by
    have eb : bbV μ'.1 (n + 1) = bbV μ.1 (n + 1) := bbV_c (fun c hc => ho.1 c (by omega)) _
    refine wp_iload_n (pc := 4) dX11_unrest_4 (by first | rfl | assumption | (repeat first | assumption | rfl | refine aG_n ?_ rfl rfl)) ?_
    refine wp_bipush (pc := 5) (v := 16) dX11_unrest_5 (by decide) ?_
    refine wp_icmp_ge (pc := 7) (tgt := 33) dX11_unrest_7 rfl (fun q => absurd q (nI_ge (a := n + 1) (b := 16) (by omega) (by omega))) (fun _ => ?_)
    refine wp_iload_n (pc := 10) dX11_unrest_10 (by first | rfl | assumption | (repeat first | assumption | rfl | refine aG_n ?_ rfl rfl)) ?_
    refine wp_aload_n (pc := 11) dX11_unrest_11 (by first | rfl | assumption | (repeat first | assumption | rfl | refine aG_n ?_ rfl rfl)) ?_
    refine wp_getR (pc := 12) dX11_unrest_12 fl_11_39 (by first | rfl | assumption | exact sh_house (by omega) | exact sh_wish (by omega) | exact sh_wor (by omega) | exact sh_bar (by omega) | exact sh_term (by omega) | exact sh_sheet (by omega) | exact sh_items (by omega) | exact sh_sums (by omega)) rfl ?_
    refine wp_aload_n (pc := 15) dX11_unrest_15 (by first | rfl | assumption | (repeat first | assumption | rfl | refine aG_n ?_ rfl rfl)) ?_
    refine wp_getR (pc := 16) dX11_unrest_16 fl_11_11 (by first | rfl | assumption | exact sh_house (by omega) | exact sh_wish (by omega) | exact sh_wor (by omega) | exact sh_bar (by omega) | exact sh_term (by omega) | exact sh_sheet (by omega) | exact sh_items (by omega) | exact sh_sums (by omega)) rfl ?_
    refine wp_iload_n (pc := 19) dX11_unrest_19 (by first | rfl | assumption | (repeat first | assumption | rfl | refine aG_n ?_ rfl rfl)) ?_
    refine wp_cV (pc := 20) dX11_unrest_20 lk_11_274 rfl (by decide) rfl (by first | rfl | assumption | exact sh_house (by omega) | exact sh_wish (by omega) | exact sh_wor (by omega) | exact sh_bar (by omega) | exact sh_term (by omega) | exact sh_sheet (by omega) | exact sh_items (by omega) | exact sh_sums (by omega)) rfl rfl ?_
    refine c_X0_betterBy (own_S ho hO) hG (by omega) (by omega) (fun μ2 o2 hG2 => ?_)
    rw [eb]
    refine aK_i ?_
    refine wp_max (pc := 23) dX11_unrest_23 lk_11_277 rfl (by decide) (by decide) (by decide) ?_
    refine wp_istore_n (pc := 26) dX11_unrest_26 (by decide) ?_
    refine wp_iinc (pc := 27) dX11_unrest_27 (by decide) (by first | rfl | assumption | (repeat first | assumption | rfl | refine aG_n ?_ rfl rfl)) rfl ?_
    refine wp_goto (pc := 30) (tgt := 4) dX11_unrest_30 rfl ?_
    exact l_unr hO k f (n + 1) (by omega) _ (ho.tr o2) hG2 _ (by first | rfl | assumption | (repeat first | assumption | rfl | refine aG_n ?_ rfl rfl)) (by first | rfl | assumption | (repeat first | assumption | rfl | refine aG_n ?_ rfl rfl)) (by rw [← nI_i1 (n + 1)]; first | rfl | assumption | (repeat first | assumption | rfl | refine aG_n ?_ rfl rfl))
theorem l_unrM (hW : I_wish μ.1) (k : ∀ μ', offW2 μ μ' → Q (some (.int (uF μ.1 15))) μ') : ∀ (f n : Nat), n + f = 15 → ∀ μ', offW2 μ μ' → ∀ L : aL, aL_get L 0 = some (.ref 86) → aL_get L 1 = some (.int (uF μ.1 n)) → aL_get L 2 = some (.int (nI (n + 1))) → WP X mX12_unrest 4 L [] μ' Q
  | 0, n, hn, μ', ho, L, g0, g1, g2 => by
    obtain rfl : n = 15 := by omega
    refine wp_iload_n (pc := 4) dX12_unrest_4 (by first | rfl | assumption | (repeat first | assumption | rfl | refine aG_n ?_ rfl rfl)) ?_
    refine wp_bipush (pc := 5) (v := 16) dX12_unrest_5 (by decide) ?_
    refine wp_icmp_ge (pc := 7) (tgt := 33) dX12_unrest_7 rfl (fun _ => ?_) (fun q => absurd (nI_le (a := 16) (b := 16) (by omega) (by omega)) q)
    refine wp_iload_n (pc := 33) dX12_unrest_33 (by first | rfl | assumption | (repeat first | assumption | rfl | refine aG_n ?_ rfl rfl)) ?_
    refine wp_ireturn (pc := 34) dX12_unrest_34 rfl (by first | rfl | decide | assumption) ?_
    exact k _ ho
  | f + 1, n, hn, μ', ho, L, g0, g1, g2 => by
    have eb : bbV μ'.1 (n + 1) = bbV μ.1 (n + 1) := bbV_c (fun c hc => ho.row (by omega)) _
    have hW' : I_wish μ'.1 := wish_c ⟨ho.row (by omega), ho.row (by omega), ho.row (by omega), ho.row (by omega)⟩ (fun i hi => ⟨ho.row (by omega), ho.row (by omega), ho.row (by omega)⟩) hW
    by_cases c : uF μ.1 n < bbV μ.1 (n + 1)
    · have e : bbV μ.1 (n + 1) = uF μ.1 (n + 1) := by show _ = (if _ then _ else _); rw [if_pos c]
      refine wp_iload_n (pc := 4) dX12_unrest_4 (by first | rfl | assumption | (repeat first | assumption | rfl | refine aG_n ?_ rfl rfl)) ?_
      refine wp_bipush (pc := 5) (v := 16) dX12_unrest_5 (by decide) ?_
      refine wp_icmp_ge (pc := 7) (tgt := 33) dX12_unrest_7 rfl (fun q => absurd q (nI_ge (a := n + 1) (b := 16) (by omega) (by omega))) (fun _ => ?_)
      refine wp_aload_n (pc := 10) dX12_unrest_10 (by first | rfl | assumption | (repeat first | assumption | rfl | refine aG_n ?_ rfl rfl)) ?_
      refine wp_iload_n (pc := 11) dX12_unrest_11 (by first | rfl | assumption | (repeat first | assumption | rfl | refine aG_n ?_ rfl rfl)) ?_
      refine wp_cV (pc := 12) dX12_unrest_12 lk_12_312 rfl (by decide) rfl (by first | rfl | assumption | exact sh_house (by omega) | exact sh_wish (by omega) | exact sh_wor (by omega) | exact sh_bar (by omega) | exact sh_term (by omega) | exact sh_sheet (by omega) | exact sh_items (by omega) | exact sh_sums (by omega)) rfl rfl ?_
      refine c_X12_betterBy hW' (by omega) (by omega) (fun μ2 o2 => ?_)
      rw [eb]
      refine aK_i ?_
      refine wp_istore_n (pc := 15) dX12_unrest_15 (by decide) ?_
      refine wp_iload_n (pc := 16) dX12_unrest_16 (by first | rfl | assumption | (repeat first | assumption | rfl | refine aG_n ?_ rfl rfl)) ?_
      refine wp_iload_n (pc := 17) dX12_unrest_17 (by first | rfl | assumption | (repeat first | assumption | rfl | refine aG_n ?_ rfl rfl)) ?_
      refine wp_icmp_le (pc := 18) (tgt := 25) dX12_unrest_18 rfl (fun q => absurd q (fun z => i_nle c z)) (fun _ => ?_)
      refine wp_iload_n (pc := 21) dX12_unrest_21 (by first | rfl | assumption | (repeat first | assumption | rfl | refine aG_n ?_ rfl rfl)) ?_
      refine wp_goto (pc := 22) (tgt := 26) dX12_unrest_22 rfl ?_
      refine wp_istore_n (pc := 26) dX12_unrest_26 (by decide) ?_
      refine wp_iinc (pc := 27) dX12_unrest_27 (by decide) (by first | rfl | assumption | (repeat first | assumption | rfl | refine aG_n ?_ rfl rfl)) rfl ?_
      refine wp_goto (pc := 30) (tgt := 4) dX12_unrest_30 rfl ?_
      exact l_unrM hW k f (n + 1) (by omega) _ (ho.tr o2) _ (by first | rfl | assumption | (repeat first | assumption | rfl | refine aG_n ?_ rfl rfl)) (by rw [← e]; first | rfl | assumption | (repeat first | assumption | rfl | refine aG_n ?_ rfl rfl)) (by rw [← nI_i1 (n + 1)]; first | rfl | assumption | (repeat first | assumption | rfl | refine aG_n ?_ rfl rfl))
    · have e : uF μ.1 n = uF μ.1 (n + 1) := by show _ = (if _ then _ else _); rw [if_neg c]
      refine wp_iload_n (pc := 4) dX12_unrest_4 (by first | rfl | assumption | (repeat first | assumption | rfl | refine aG_n ?_ rfl rfl)) ?_
      refine wp_bipush (pc := 5) (v := 16) dX12_unrest_5 (by decide) ?_
      refine wp_icmp_ge (pc := 7) (tgt := 33) dX12_unrest_7 rfl (fun q => absurd q (nI_ge (a := n + 1) (b := 16) (by omega) (by omega))) (fun _ => ?_)
      refine wp_aload_n (pc := 10) dX12_unrest_10 (by first | rfl | assumption | (repeat first | assumption | rfl | refine aG_n ?_ rfl rfl)) ?_
      refine wp_iload_n (pc := 11) dX12_unrest_11 (by first | rfl | assumption | (repeat first | assumption | rfl | refine aG_n ?_ rfl rfl)) ?_
      refine wp_cV (pc := 12) dX12_unrest_12 lk_12_312 rfl (by decide) rfl (by first | rfl | assumption | exact sh_house (by omega) | exact sh_wish (by omega) | exact sh_wor (by omega) | exact sh_bar (by omega) | exact sh_term (by omega) | exact sh_sheet (by omega) | exact sh_items (by omega) | exact sh_sums (by omega)) rfl rfl ?_
      refine c_X12_betterBy hW' (by omega) (by omega) (fun μ2 o2 => ?_)
      rw [eb]
      refine aK_i ?_
      refine wp_istore_n (pc := 15) dX12_unrest_15 (by decide) ?_
      refine wp_iload_n (pc := 16) dX12_unrest_16 (by first | rfl | assumption | (repeat first | assumption | rfl | refine aG_n ?_ rfl rfl)) ?_
      refine wp_iload_n (pc := 17) dX12_unrest_17 (by first | rfl | assumption | (repeat first | assumption | rfl | refine aG_n ?_ rfl rfl)) ?_
      refine wp_icmp_le (pc := 18) (tgt := 25) dX12_unrest_18 rfl (fun _ => ?_) (fun q => absurd (i_nlt c) q)
      refine wp_iload_n (pc := 25) dX12_unrest_25 (by first | rfl | assumption | (repeat first | assumption | rfl | refine aG_n ?_ rfl rfl)) ?_
      refine wp_istore_n (pc := 26) dX12_unrest_26 (by decide) ?_
      refine wp_iinc (pc := 27) dX12_unrest_27 (by decide) (by first | rfl | assumption | (repeat first | assumption | rfl | refine aG_n ?_ rfl rfl)) rfl ?_
      refine wp_goto (pc := 30) (tgt := 4) dX12_unrest_30 rfl ?_
      exact l_unrM hW k f (n + 1) (by omega) _ (ho.tr o2) _ (by first | rfl | assumption | (repeat first | assumption | rfl | refine aG_n ?_ rfl rfl)) (by rw [← e]; first | rfl | assumption | (repeat first | assumption | rfl | refine aG_n ?_ rfl rfl)) (by rw [← nI_i1 (n + 1)]; first | rfl | assumption | (repeat first | assumption | rfl | refine aG_n ?_ rfl rfl))
/-- the first group that would do better -/
def lvR (M : MM) (v : Int32) : Prop := (∃ g, 0 < g ∧ g < 16 ∧ v = nI g ∧ 0 < bbV M g ∧ ∀ h, 0 < h → h < g → ¬ 0 < bbV M h) ∨ (v = -4 ∧ ∀ h, 0 < h → h < 16 → ¬ 0 < bbV M h)
theorem lvR_u {M : MM} {v v' : Int32} (h : lvR M v) (h' : lvR M v') : v' = v := by
  rcases h with ⟨g, a1, a2, rfl, a3, a4⟩ | ⟨rfl, a⟩ <;> rcases h' with ⟨g', b1, b2, rfl, b3, b4⟩ | ⟨rfl, b⟩
  · have : g' = g := by
      by_cases h1 : g' < g
      · exact absurd b3 (a4 g' b1 h1)
      · by_cases h2 : g < g'
        · exact absurd a3 (b4 g a1 h2)
        · omega
    rw [this]
  · exact absurd a3 (b g a1 a2)
  · exact absurd b3 (a g' b1 b2)
  · rfl
theorem l_lea (hO : I_own μ.1) (k : ∀ v μ', lvR μ.1 v → offS μ μ' → I_grp μ'.1 → Q (some (.int v)) μ') : ∀ (f g : Nat), g + f = 16 → 0 < g → (∀ h, 0 < h → h < g → ¬ 0 < bbV μ.1 h) → ∀ μ', offS μ μ' → I_grp μ'.1 → ∀ L : aL, aL_get L 0 = some (.ref 0) → aL_get L 1 = some (.int (nI g)) → WP X mX11_leaves 2 L [] μ' Q
  | 0, g, hg, hg0, hn, μ', ho, hG, L, g0, g1 => by
    obtain rfl : g = 16 := by omega
    refine wp_iload_n (pc := 2) dX11_leaves_2 (by first | rfl | assumption | (repeat first | assumption | rfl | refine aG_n ?_ rfl rfl)) ?_
    refine wp_bipush (pc := 3) (v := 16) dX11_leaves_3 (by decide) ?_
    refine wp_icmp_ge (pc := 5) (tgt := 31) dX11_leaves_5 rfl (fun _ => ?_) (fun q => absurd (nI_le (a := 16) (b := 16) (by omega) (by omega)) q)
    refine wp_bipush (pc := 31) (v := -4) dX11_leaves_31 (by decide) ?_
    refine wp_ireturn (pc := 33) dX11_leaves_33 rfl (by first | rfl | decide | assumption) ?_
    exact k _ _ (Or.inr ⟨rfl, hn⟩) ho hG
  | f + 1, g, hg, hg0, hn, μ', ho, hG, L, g0, g1 => by
    have eb : bbV μ'.1 g = bbV μ.1 g := bbV_c (fun c hc => ho.1 c (by omega)) _
    by_cases c : 0 < bbV μ.1 g
    · refine wp_iload_n (pc := 2) dX11_leaves_2 (by first | rfl | assumption | (repeat first | assumption | rfl | refine aG_n ?_ rfl rfl)) ?_
      refine wp_bipush (pc := 3) (v := 16) dX11_leaves_3 (by decide) ?_
      refine wp_icmp_ge (pc := 5) (tgt := 31) dX11_leaves_5 rfl (fun q => absurd q (nI_ge (a := g) (b := 16) (by omega) (by omega))) (fun _ => ?_)
      refine wp_aload_n (pc := 8) dX11_leaves_8 (by first | rfl | assumption | (repeat first | assumption | rfl | refine aG_n ?_ rfl rfl)) ?_
      refine wp_getR (pc := 9) dX11_leaves_9 fl_11_39 (by first | rfl | assumption | exact sh_house (by omega) | exact sh_wish (by omega) | exact sh_wor (by omega) | exact sh_bar (by omega) | exact sh_term (by omega) | exact sh_sheet (by omega) | exact sh_items (by omega) | exact sh_sums (by omega)) rfl ?_
      refine wp_aload_n (pc := 12) dX11_leaves_12 (by first | rfl | assumption | (repeat first | assumption | rfl | refine aG_n ?_ rfl rfl)) ?_
      refine wp_getR (pc := 13) dX11_leaves_13 fl_11_11 (by first | rfl | assumption | exact sh_house (by omega) | exact sh_wish (by omega) | exact sh_wor (by omega) | exact sh_bar (by omega) | exact sh_term (by omega) | exact sh_sheet (by omega) | exact sh_items (by omega) | exact sh_sums (by omega)) rfl ?_
      refine wp_iload_n (pc := 16) dX11_leaves_16 (by first | rfl | assumption | (repeat first | assumption | rfl | refine aG_n ?_ rfl rfl)) ?_
      refine wp_cV (pc := 17) dX11_leaves_17 lk_11_274 rfl (by decide) rfl (by first | rfl | assumption | exact sh_house (by omega) | exact sh_wish (by omega) | exact sh_wor (by omega) | exact sh_bar (by omega) | exact sh_term (by omega) | exact sh_sheet (by omega) | exact sh_items (by omega) | exact sh_sums (by omega)) rfl rfl ?_
      refine c_X0_betterBy (own_S ho hO) hG hg0 (by omega) (fun μ2 o2 hG2 => ?_)
      rw [eb]
      refine aK_i ?_
      refine wp_if_le (pc := 20) (tgt := 25) dX11_leaves_20 rfl (fun q => absurd q (fun z => i_nle c z)) (fun _ => ?_)
      refine wp_iload_n (pc := 23) dX11_leaves_23 (by first | rfl | assumption | (repeat first | assumption | rfl | refine aG_n ?_ rfl rfl)) ?_
      refine wp_ireturn (pc := 24) dX11_leaves_24 rfl (by first | rfl | decide | assumption) ?_
      exact k _ _ (Or.inl ⟨g, hg0, by omega, rfl, c, hn⟩) (ho.tr o2) hG2
    · refine wp_iload_n (pc := 2) dX11_leaves_2 (by first | rfl | assumption | (repeat first | assumption | rfl | refine aG_n ?_ rfl rfl)) ?_
      refine wp_bipush (pc := 3) (v := 16) dX11_leaves_3 (by decide) ?_
      refine wp_icmp_ge (pc := 5) (tgt := 31) dX11_leaves_5 rfl (fun q => absurd q (nI_ge (a := g) (b := 16) (by omega) (by omega))) (fun _ => ?_)
      refine wp_aload_n (pc := 8) dX11_leaves_8 (by first | rfl | assumption | (repeat first | assumption | rfl | refine aG_n ?_ rfl rfl)) ?_
      refine wp_getR (pc := 9) dX11_leaves_9 fl_11_39 (by first | rfl | assumption | exact sh_house (by omega) | exact sh_wish (by omega) | exact sh_wor (by omega) | exact sh_bar (by omega) | exact sh_term (by omega) | exact sh_sheet (by omega) | exact sh_items (by omega) | exact sh_sums (by omega)) rfl ?_
      refine wp_aload_n (pc := 12) dX11_leaves_12 (by first | rfl | assumption | (repeat first | assumption | rfl | refine aG_n ?_ rfl rfl)) ?_
      refine wp_getR (pc := 13) dX11_leaves_13 fl_11_11 (by first | rfl | assumption | exact sh_house (by omega) | exact sh_wish (by omega) | exact sh_wor (by omega) | exact sh_bar (by omega) | exact sh_term (by omega) | exact sh_sheet (by omega) | exact sh_items (by omega) | exact sh_sums (by omega)) rfl ?_
      refine wp_iload_n (pc := 16) dX11_leaves_16 (by first | rfl | assumption | (repeat first | assumption | rfl | refine aG_n ?_ rfl rfl)) ?_
      refine wp_cV (pc := 17) dX11_leaves_17 lk_11_274 rfl (by decide) rfl (by first | rfl | assumption | exact sh_house (by omega) | exact sh_wish (by omega) | exact sh_wor (by omega) | exact sh_bar (by omega) | exact sh_term (by omega) | exact sh_sheet (by omega) | exact sh_items (by omega) | exact sh_sums (by omega)) rfl rfl ?_
      refine c_X0_betterBy (own_S ho hO) hG hg0 (by omega) (fun μ2 o2 hG2 => ?_)
      rw [eb]
      refine aK_i ?_
      refine wp_if_le (pc := 20) (tgt := 25) dX11_leaves_20 rfl (fun _ => ?_) (fun q => absurd (i_nlt c) q)
      refine wp_iinc (pc := 25) dX11_leaves_25 (by decide) (by first | rfl | assumption | (repeat first | assumption | rfl | refine aG_n ?_ rfl rfl)) rfl ?_
      refine wp_goto (pc := 28) (tgt := 2) dX11_leaves_28 rfl ?_
      exact l_lea hO k f (g + 1) (by omega) (by omega) (fun h h0 h1 => if e : h = g then e ▸ c else hn h h0 (by omega)) _ (ho.tr o2) hG2 _ (by first | rfl | assumption | (repeat first | assumption | rfl | refine aG_n ?_ rfl rfl)) (by rw [← nI_i1]; first | rfl | assumption | (repeat first | assumption | rfl | refine aG_n ?_ rfl rfl))
theorem l_leaM (hW : I_wish μ.1) (k : ∀ v μ', lvR μ.1 v → offW2 μ μ' → Q (some (.int v)) μ') : ∀ (f g : Nat), g + f = 16 → 0 < g → (∀ h, 0 < h → h < g → ¬ 0 < bbV μ.1 h) → ∀ μ', offW2 μ μ' → ∀ L : aL, aL_get L 0 = some (.ref 86) → aL_get L 1 = some (.int (nI g)) → WP X mX12_leaves 2 L [] μ' Q
  | 0, g, hg, hg0, hn, μ', ho, L, g0, g1 => by
    obtain rfl : g = 16 := by omega
    refine wp_iload_n (pc := 2) dX12_leaves_2 (by first | rfl | assumption | (repeat first | assumption | rfl | refine aG_n ?_ rfl rfl)) ?_
    refine wp_bipush (pc := 3) (v := 16) dX12_leaves_3 (by decide) ?_
    refine wp_icmp_ge (pc := 5) (tgt := 24) dX12_leaves_5 rfl (fun _ => ?_) (fun q => absurd (nI_le (a := 16) (b := 16) (by omega) (by omega)) q)
    refine wp_bipush (pc := 24) (v := -4) dX12_leaves_24 (by decide) ?_
    refine wp_ireturn (pc := 26) dX12_leaves_26 rfl (by first | rfl | decide | assumption) ?_
    exact k _ _ (Or.inr ⟨rfl, hn⟩) ho
  | f + 1, g, hg, hg0, hn, μ', ho, L, g0, g1 => by
    have eb : bbV μ'.1 g = bbV μ.1 g := bbV_c (fun c hc => ho.row (by omega)) _
    have hW' : I_wish μ'.1 := wish_c ⟨ho.row (by omega), ho.row (by omega), ho.row (by omega), ho.row (by omega)⟩ (fun i hi => ⟨ho.row (by omega), ho.row (by omega), ho.row (by omega)⟩) hW
    by_cases c : 0 < bbV μ.1 g
    · refine wp_iload_n (pc := 2) dX12_leaves_2 (by first | rfl | assumption | (repeat first | assumption | rfl | refine aG_n ?_ rfl rfl)) ?_
      refine wp_bipush (pc := 3) (v := 16) dX12_leaves_3 (by decide) ?_
      refine wp_icmp_ge (pc := 5) (tgt := 24) dX12_leaves_5 rfl (fun q => absurd q (nI_ge (a := g) (b := 16) (by omega) (by omega))) (fun _ => ?_)
      refine wp_aload_n (pc := 8) dX12_leaves_8 (by first | rfl | assumption | (repeat first | assumption | rfl | refine aG_n ?_ rfl rfl)) ?_
      refine wp_iload_n (pc := 9) dX12_leaves_9 (by first | rfl | assumption | (repeat first | assumption | rfl | refine aG_n ?_ rfl rfl)) ?_
      refine wp_cV (pc := 10) dX12_leaves_10 lk_12_312 rfl (by decide) rfl (by first | rfl | assumption | exact sh_house (by omega) | exact sh_wish (by omega) | exact sh_wor (by omega) | exact sh_bar (by omega) | exact sh_term (by omega) | exact sh_sheet (by omega) | exact sh_items (by omega) | exact sh_sums (by omega)) rfl rfl ?_
      refine c_X12_betterBy hW' hg0 (by omega) (fun μ2 o2 => ?_)
      rw [eb]
      refine aK_i ?_
      refine wp_if_le (pc := 13) (tgt := 18) dX12_leaves_13 rfl (fun q => absurd q (fun z => i_nle c z)) (fun _ => ?_)
      refine wp_iload_n (pc := 16) dX12_leaves_16 (by first | rfl | assumption | (repeat first | assumption | rfl | refine aG_n ?_ rfl rfl)) ?_
      refine wp_ireturn (pc := 17) dX12_leaves_17 rfl (by first | rfl | decide | assumption) ?_
      exact k _ _ (Or.inl ⟨g, hg0, by omega, rfl, c, hn⟩) (ho.tr o2)
    · refine wp_iload_n (pc := 2) dX12_leaves_2 (by first | rfl | assumption | (repeat first | assumption | rfl | refine aG_n ?_ rfl rfl)) ?_
      refine wp_bipush (pc := 3) (v := 16) dX12_leaves_3 (by decide) ?_
      refine wp_icmp_ge (pc := 5) (tgt := 24) dX12_leaves_5 rfl (fun q => absurd q (nI_ge (a := g) (b := 16) (by omega) (by omega))) (fun _ => ?_)
      refine wp_aload_n (pc := 8) dX12_leaves_8 (by first | rfl | assumption | (repeat first | assumption | rfl | refine aG_n ?_ rfl rfl)) ?_
      refine wp_iload_n (pc := 9) dX12_leaves_9 (by first | rfl | assumption | (repeat first | assumption | rfl | refine aG_n ?_ rfl rfl)) ?_
      refine wp_cV (pc := 10) dX12_leaves_10 lk_12_312 rfl (by decide) rfl (by first | rfl | assumption | exact sh_house (by omega) | exact sh_wish (by omega) | exact sh_wor (by omega) | exact sh_bar (by omega) | exact sh_term (by omega) | exact sh_sheet (by omega) | exact sh_items (by omega) | exact sh_sums (by omega)) rfl rfl ?_
      refine c_X12_betterBy hW' hg0 (by omega) (fun μ2 o2 => ?_)
      rw [eb]
      refine aK_i ?_
      refine wp_if_le (pc := 13) (tgt := 18) dX12_leaves_13 rfl (fun _ => ?_) (fun q => absurd (i_nlt c) q)
      refine wp_iinc (pc := 18) dX12_leaves_18 (by decide) (by first | rfl | assumption | (repeat first | assumption | rfl | refine aG_n ?_ rfl rfl)) rfl ?_
      refine wp_goto (pc := 21) (tgt := 2) dX12_leaves_21 rfl ?_
      exact l_leaM hW k f (g + 1) (by omega) (by omega) (fun h h0 h1 => if e : h = g then e ▸ c else hn h h0 (by omega)) _ (ho.tr o2) _ (by first | rfl | assumption | (repeat first | assumption | rfl | refine aG_n ?_ rfl rfl)) (by rw [← nI_i1]; first | rfl | assumption | (repeat first | assumption | rfl | refine aG_n ?_ rfl rfl))
end BETTER
theorem uF_c {M M' : MM} (h : ∀ c, (57 ≤ c ∧ c ≤ 70) ∨ c = 87 → M' c = M c) : ∀ n, uF M' n = uF M n
  | 0 => rfl
  | n + 1 => by unfold uF; rw [uF_c h n, bbV_c h]
theorem lvR_c {M M' : MM} (h : ∀ c, (57 ≤ c ∧ c ≤ 70) ∨ c = 87 → M' c = M c) {v : Int32} (hl : lvR M' v) : lvR M v := by
  unfold lvR at *
  simp only [bbV_c h] at hl
  exact hl
theorem J_unrest : Jnt mX11_unrest mX12_unrest [] := by
  intro X μ Q hI k
  refine wp_iconst (pc := 0) (v := 0) dX11_unrest_0 (by decide) ?_
  refine wp_istore_n (pc := 1) dX11_unrest_1 (by decide) ?_
  refine wp_iconst (pc := 2) (v := 1) dX11_unrest_2 (by decide) ?_
  refine wp_istore_n (pc := 3) dX11_unrest_3 (by decide) ?_
  skip
  refine l_unr (μ := μ) hI.1 (fun μ1 o1 hG1 => k _ _ (fun Q' k' => ?_)) 15 0 (by omega) μ ⟨fun _ _ => rfl, rfl⟩ hI.2.2.2.2.2.2.2.2.2 _ (by first | rfl | assumption | (repeat first | assumption | rfl | refine aG_n ?_ rfl rfl)) (by first | rfl | assumption | (repeat first | assumption | rfl | refine aG_n ?_ rfl rfl)) (by first | rfl | assumption | (repeat first | assumption | rfl | refine aG_n ?_ rfl rfl))
  have hI1 := Inv_S hI o1 hG1
  have eu := uF_c (M := μ.1) (M' := μ1.1) (fun c hc => o1.1 c (by omega)) 15
  refine wp_iconst (pc := 0) (v := 0) dX12_unrest_0 (by decide) ?_
  refine wp_istore_n (pc := 1) dX12_unrest_1 (by decide) ?_
  refine wp_iconst (pc := 2) (v := 1) dX12_unrest_2 (by decide) ?_
  refine wp_istore_n (pc := 3) dX12_unrest_3 (by decide) ?_
  skip
  exact l_unrM (μ := μ1) hI1.2.2.2.1 (fun μ2 o2 => by rw [eu]; exact k' _ (Inv_W2 hI1 o2)) 15 0 (by omega) μ1 offW2.rf _ (by first | rfl | assumption | (repeat first | assumption | rfl | refine aG_n ?_ rfl rfl)) (by first | rfl | assumption | (repeat first | assumption | rfl | refine aG_n ?_ rfl rfl)) (by first | rfl | assumption | (repeat first | assumption | rfl | refine aG_n ?_ rfl rfl))
theorem J_leaves : Jnt mX11_leaves mX12_leaves [] := by
  intro X μ Q hI k
  refine wp_iconst (pc := 0) (v := 1) dX11_leaves_0 (by decide) ?_
  refine wp_istore_n (pc := 1) dX11_leaves_1 (by decide) ?_
  skip
  refine l_lea (μ := μ) hI.1 (fun v μ1 hv o1 hG1 => k _ _ (fun Q' k' => ?_)) 15 1 (by omega) (by omega) (fun h h0 h1 => absurd h0 (by omega)) μ ⟨fun _ _ => rfl, rfl⟩ hI.2.2.2.2.2.2.2.2.2 _ (by first | rfl | assumption | (repeat first | assumption | rfl | refine aG_n ?_ rfl rfl)) (by first | rfl | assumption | (repeat first | assumption | rfl | refine aG_n ?_ rfl rfl))
  have hI1 := Inv_S hI o1 hG1
  refine wp_iconst (pc := 0) (v := 1) dX12_leaves_0 (by decide) ?_
  refine wp_istore_n (pc := 1) dX12_leaves_1 (by decide) ?_
  skip
  refine l_leaM (μ := μ1) hI1.2.2.2.1 (fun v' μ2 hv' o2 => ?_) 15 1 (by omega) (by omega) (fun h h0 h1 => absurd h0 (by omega)) μ1 offW2.rf _ (by first | rfl | assumption | (repeat first | assumption | rfl | refine aG_n ?_ rfl rfl)) (by first | rfl | assumption | (repeat first | assumption | rfl | refine aG_n ?_ rfl rfl))
  rw [lvR_u hv (lvR_c (fun c hc => o1.1 c (by omega)) hv')]
  exact k' _ (Inv_W2 hI1 o2)

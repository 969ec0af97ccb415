theorem aG_n2 {L : aL} {i k : Nat} {v w : Value} (h : aL_get L k = some w) (hk : (k == i) = false) (hk1 : (k == i + 1) = false) (hc : (k + 1 == i && w.category == 2) = false) : aL_get (aL_set2 L i v) k = some w := by
  have hki : ¬ k = i := by simpa using hk
  have hik : (i == k) = false := by simp; exact fun z => hki z.symm
  unfold aL_get at h ⊢
  unfold aL_set2
  rw [List.find?_cons, hik]
  cases hf : L.find? (fun q => q.1 == k) with
  | none => rw [hf] at h; cases h
  | some q =>
    rw [hf] at h
    have hq2 : q.2 = w := Option.some.inj h
    have hq1 : q.1 = k := by have := List.find?_some hf; simpa using this
    have hp : (!(q.1 == i) && (!(q.1 == i + 1) && !(q.1 + 1 == i && q.2.category == 2))) = true := by rw [hq1, hq2, hk, hk1, hc]; rfl
    have key : (L.filter (fun q => !(q.1 == i) && (!(q.1 == i + 1) && !(q.1 + 1 == i && q.2.category == 2)))).find? (fun q => q.1 == k) = some q := by
      rw [List.find?_filter]
      rw [List.find?_eq_some_iff_append] at hf ⊢
      obtain ⟨h1, as, bs, h2, h3⟩ := hf
      refine ⟨by rw [hp, h1]; rfl, as, bs, h2, fun a ha => ?_⟩
      have h4 := h3 a ha
      have h5 : (a.1 == k) = false := by simpa using h4
      rw [h5]; simp
    dsimp only
    rw [key, ← hq2]; rfl
def JntLX (X : aX) (mc mm : aM) (as : List Value) : Prop := ∀ (μ : Mm) (Q : Option Value → Mm → Prop), Inv μ → (∀ (v : Int64) (μ1 : Mm), (∀ Q' : Option Value → Mm → Prop, (∀ μ2, Inv μ2 → Q' (some (.long v)) μ2) → WP X mm 0 (lv_args 0 (.ref 86 :: as)) [] μ1 Q') → Q (some (.long v)) μ1) → WP X mc 0 (lv_args 0 (.ref 0 :: as)) [] μ Q
def vZ (M : MM) (g : Nat) : Int32 := if g = 0 then 0 else if vG M g = nov then 0 else vG M g
def odB (n : Nat) : Int32 := if n = 1 ∨ n = 2 then 2 else 6
def shF (M : MM) (h : Nat) : Nat → Int64
  | 0 => 0
  | n + 1 => if n &&& 2 ^ h = 0 then shF M h n + (odB (pcn n)).toInt64 * (vZ M (n ||| 2 ^ h) - vZ M n).toInt64 else shF M h n
theorem vZ_c {M M' : MM} (h : ∀ c, (57 ≤ c ∧ c ≤ 70) ∨ c = 87 → M' c = M c) (g : Nat) : vZ M' g = vZ M g := by unfold vZ; rw [vG_c h g]
theorem shF_c {M M' : MM} (h : ∀ c, (57 ≤ c ∧ c ≤ 70) ∨ c = 87 → M' c = M c) (x : Nat) : ∀ n, shF M' x n = shF M x n
  | 0 => rfl
  | n + 1 => by unfold shF; rw [shF_c h x n, vZ_c h, vZ_c h]
theorem sh_bits : ∀ n, n < 16 → ∀ h, h < 4 → (n ||| 2 ^ h < 16) ∧ (n &&& 2 ^ h < 16) ∧ (n &&& 2 ^ h = 0 → pcn n < 4) ∧ (n &&& 2 ^ h = 0 ↔ n.testBit h = false) ∧ pcn n = cn n 4 ∧ 2 ^ h < 16 := by decide +kernel
section SHARE
variable {X : aX} {μ : Mm} {Q : Option Value → Mm → Prop} {h : Nat}
theorem c_X0_valueOrZero {g : Nat} (hO : I_own μ.1) (hG : I_grp μ.1) (hg : g < 16) (k : ∀ μ' : Mm, offS μ μ' → I_grp μ'.1 → Q (some (.int (vZ μ.1 g))) μ') : WP X mX0_valueOrZero 0 (lv_args 0 [.ref 11, .ref 1, .int (nI g)]) [] μ Q := by
  unfold vZ at k
  by_cases g0 : g = 0
  · rw [if_pos g0] at k
    refine wp_iload_n (pc := 0) dX0_valueOrZero_0 (by first | rfl | assumption | (repeat first | assumption | rfl | refine aG_n ?_ rfl rfl | refine aG_n2 ?_ rfl rfl rfl)) ?_
    refine wp_if_ne (pc := 1) (tgt := 9) dX0_valueOrZero_1 rfl (fun q => absurd (by rw [g0]; rfl) q) (fun _ => ?_)
    refine wp_ldc (pc := 4) dX0_valueOrZero_4 cs_0_31 ?_
    refine wp_goto (pc := 6) (tgt := 15) dX0_valueOrZero_6 rfl ?_
    refine wp_istore_n (pc := 15) dX0_valueOrZero_15 (by decide) ?_
    refine wp_iload_n (pc := 16) dX0_valueOrZero_16 (by first | rfl | assumption | (repeat first | assumption | rfl | refine aG_n ?_ rfl rfl | refine aG_n2 ?_ rfl rfl rfl)) ?_
    refine wp_ldc (pc := 17) dX0_valueOrZero_17 cs_0_31 ?_
    refine wp_icmp_ne (pc := 19) (tgt := 26) dX0_valueOrZero_19 rfl (fun q => absurd rfl q) (fun _ => ?_)
    refine wp_iconst (pc := 22) (v := 0) dX0_valueOrZero_22 (by decide) ?_
    refine wp_goto (pc := 23) (tgt := 27) dX0_valueOrZero_23 rfl ?_
    refine wp_ireturn (pc := 27) dX0_valueOrZero_27 rfl (by first | rfl | decide | assumption) ?_
    exact k _ ⟨fun _ _ => rfl, rfl⟩ hG
  · rw [if_neg g0] at k
    by_cases c : vG μ.1 g = nov
    · rw [if_pos c] at k
      refine wp_iload_n (pc := 0) dX0_valueOrZero_0 (by first | rfl | assumption | (repeat first | assumption | rfl | refine aG_n ?_ rfl rfl | refine aG_n2 ?_ rfl rfl rfl)) ?_
      refine wp_if_ne (pc := 1) (tgt := 9) dX0_valueOrZero_1 rfl (fun _ => ?_) (fun q => absurd q (nI_ne0 (by omega) (by omega)))
      refine wp_aload_n (pc := 9) dX0_valueOrZero_9 (by first | rfl | assumption | (repeat first | assumption | rfl | refine aG_n ?_ rfl rfl | refine aG_n2 ?_ rfl rfl rfl)) ?_
      refine wp_aload_n (pc := 10) dX0_valueOrZero_10 (by first | rfl | assumption | (repeat first | assumption | rfl | refine aG_n ?_ rfl rfl | refine aG_n2 ?_ rfl rfl rfl)) ?_
      refine wp_iload_n (pc := 11) dX0_valueOrZero_11 (by first | rfl | assumption | (repeat first | assumption | rfl | refine aG_n ?_ rfl rfl | refine aG_n2 ?_ rfl rfl rfl)) ?_
      refine wp_cV (pc := 12) dX0_valueOrZero_12 lk_0_28 rfl (by decide) rfl (by first | rfl | assumption | exact sh_house (by omega) | exact sh_wish (by omega) | exact sh_wor (by omega) | exact sh_bar (by omega) | exact sh_term (by omega) | exact sh_sheet (by omega) | exact sh_items (by omega) | exact sh_sums (by omega)) rfl rfl ?_
      refine c_X0_valueOf hO hG (by omega) hg (fun μ1 o1 hG1 => aK_i ?_)
      refine wp_istore_n (pc := 15) dX0_valueOrZero_15 (by decide) ?_
      refine wp_iload_n (pc := 16) dX0_valueOrZero_16 (by first | rfl | assumption | (repeat first | assumption | rfl | refine aG_n ?_ rfl rfl | refine aG_n2 ?_ rfl rfl rfl)) ?_
      refine wp_ldc (pc := 17) dX0_valueOrZero_17 cs_0_31 ?_
      refine wp_icmp_ne (pc := 19) (tgt := 26) dX0_valueOrZero_19 rfl (fun q => absurd c q) (fun _ => ?_)
      refine wp_iconst (pc := 22) (v := 0) dX0_valueOrZero_22 (by decide) ?_
      refine wp_goto (pc := 23) (tgt := 27) dX0_valueOrZero_23 rfl ?_
      refine wp_ireturn (pc := 27) dX0_valueOrZero_27 rfl (by first | rfl | decide | assumption) ?_
      exact k _ o1 hG1
    · rw [if_neg c] at k
      refine wp_iload_n (pc := 0) dX0_valueOrZero_0 (by first | rfl | assumption | (repeat first | assumption | rfl | refine aG_n ?_ rfl rfl | refine aG_n2 ?_ rfl rfl rfl)) ?_
      refine wp_if_ne (pc := 1) (tgt := 9) dX0_valueOrZero_1 rfl (fun _ => ?_) (fun q => absurd q (nI_ne0 (by omega) (by omega)))
      refine wp_aload_n (pc := 9) dX0_valueOrZero_9 (by first | rfl | assumption | (repeat first | assumption | rfl | refine aG_n ?_ rfl rfl | refine aG_n2 ?_ rfl rfl rfl)) ?_
      refine wp_aload_n (pc := 10) dX0_valueOrZero_10 (by first | rfl | assumption | (repeat first | assumption | rfl | refine aG_n ?_ rfl rfl | refine aG_n2 ?_ rfl rfl rfl)) ?_
      refine wp_iload_n (pc := 11) dX0_valueOrZero_11 (by first | rfl | assumption | (repeat first | assumption | rfl | refine aG_n ?_ rfl rfl | refine aG_n2 ?_ rfl rfl rfl)) ?_
      refine wp_cV (pc := 12) dX0_valueOrZero_12 lk_0_28 rfl (by decide) rfl (by first | rfl | assumption | exact sh_house (by omega) | exact sh_wish (by omega) | exact sh_wor (by omega) | exact sh_bar (by omega) | exact sh_term (by omega) | exact sh_sheet (by omega) | exact sh_items (by omega) | exact sh_sums (by omega)) rfl rfl ?_
      refine c_X0_valueOf hO hG (by omega) hg (fun μ1 o1 hG1 => aK_i ?_)
      refine wp_istore_n (pc := 15) dX0_valueOrZero_15 (by decide) ?_
      refine wp_iload_n (pc := 16) dX0_valueOrZero_16 (by first | rfl | assumption | (repeat first | assumption | rfl | refine aG_n ?_ rfl rfl | refine aG_n2 ?_ rfl rfl rfl)) ?_
      refine wp_ldc (pc := 17) dX0_valueOrZero_17 cs_0_31 ?_
      refine wp_icmp_ne (pc := 19) (tgt := 26) dX0_valueOrZero_19 rfl (fun _ => ?_) (fun q => absurd q c)
      refine wp_iload_n (pc := 26) dX0_valueOrZero_26 (by first | rfl | assumption | (repeat first | assumption | rfl | refine aG_n ?_ rfl rfl | refine aG_n2 ?_ rfl rfl rfl)) ?_
      refine wp_ireturn (pc := 27) dX0_valueOrZero_27 rfl (by first | rfl | decide | assumption) ?_
      exact k _ o1 hG1
theorem c_X0_ordersWith {n : Nat} (hX : X 1 = (4, fun j => if j = 1 ∨ j = 2 then 2 else 6)) (hn : n < 4) (k : Q (some (.int (odB n))) μ) : WP X mX0_ordersWith 0 (lv_args 0 [.int (nI n)]) [] μ Q := by
  have e1 : (X (min 1 1)).1 = 4 := by rw [show min 1 1 = 1 from rfl, hX]
  have e2 : (X (min 1 1)).2 n = odB n := by rw [show min 1 1 = 1 from rfl, hX]; rfl
  have cn' : (nI n).toNatClampNeg = n := nI_clamp (by omega)
  refine wp_iload_n (pc := 0) dX0_ordersWith_0 (by first | rfl | assumption | (repeat first | assumption | rfl | refine aG_n ?_ rfl rfl | refine aG_n2 ?_ rfl rfl rfl)) ?_
  refine wp_if_lt (pc := 1) (tgt := 20) dX0_ordersWith_1 rfl (fun q => absurd q (nI_pos (by omega))) (fun _ => ?_)
  refine wp_iload_n (pc := 4) dX0_ordersWith_4 (by first | rfl | assumption | (repeat first | assumption | rfl | refine aG_n ?_ rfl rfl | refine aG_n2 ?_ rfl rfl rfl)) ?_
  refine wp_gets (pc := 5) dX0_ordersWith_5 rfl ?_
  refine wp_slen (pc := 8) dX0_ordersWith_8 ?_
  refine wp_icmp_ge (pc := 9) (tgt := 20) dX0_ordersWith_9 rfl (fun q => absurd q (by rw [e1]; exact nI_ge (b := 4) (by omega) (by omega))) (fun _ => ?_)
  refine wp_gets (pc := 12) dX0_ordersWith_12 rfl ?_
  refine wp_iload_n (pc := 15) dX0_ordersWith_15 (by first | rfl | assumption | (repeat first | assumption | rfl | refine aG_n ?_ rfl rfl | refine aG_n2 ?_ rfl rfl rfl)) ?_
  refine wp_sald (pc := 16) dX0_ordersWith_16 (by rw [e1]; exact vp_in_nI hn (by decide)) ?_
  refine wp_goto (pc := 17) (tgt := 21) dX0_ordersWith_17 rfl ?_
  refine wp_ireturn (pc := 21) dX0_ordersWith_21 rfl (by first | rfl | decide | assumption) ?_
  rw [cn', e2]; exact k
theorem l_shr (hX : X 1 = (4, fun j => if j = 1 ∨ j = 2 then 2 else 6)) (hh : h < 4) (hO : I_own μ.1) (k : ∀ μ', offS μ μ' → I_grp μ'.1 → Q (some (.long (shF μ.1 h 16))) μ') : ∀ (f n : Nat), n + f = 16 → ∀ μ', offS μ μ' → I_grp μ'.1 → ∀ L : aL, aL_get L 0 = some (.ref 11) → aL_get L 1 = some (.ref 1) → aL_get L 3 = some (.long (shF μ.1 h n)) → aL_get L 5 = some (.int (nI (2 ^ h))) → aL_get L 6 = some (.int (nI n)) → WP X mX0_shareOf 10 L [] μ' Q
  | 0, n, hn, μ', ho, hG, L, g0, g1, g3, g5, g6 => by
    obtain rfl : n = 16 := by omega
    refine wp_iload (pc := 10) dX0_shareOf_10 (by first | rfl | assumption | (repeat first | assumption | rfl | refine aG_n ?_ rfl rfl | refine aG_n2 ?_ rfl rfl rfl)) ?_
    refine wp_bipush (pc := 12) (v := 16) dX0_shareOf_12 (by decide) ?_
    refine wp_icmp_ge (pc := 14) (tgt := 67) dX0_shareOf_14 rfl (fun _ => ?_) (fun q => absurd (nI_le (a := 16) (b := 16) (by omega) (by omega)) q)
    refine wp_lload_n (pc := 67) dX0_shareOf_67 (by first | rfl | assumption | (repeat first | assumption | rfl | refine aG_n ?_ rfl rfl | refine aG_n2 ?_ rfl rfl rfl)) ?_
    refine wp_lreturn (pc := 68) dX0_shareOf_68 rfl ?_
    exact k _ ho hG
  | f + 1, n, hn, μ', ho, hG, L, g0, g1, g3, g5, g6 => by
    obtain ⟨b1, b2, b3, b4, b5, b6⟩ := sh_bits n (by omega) h hh
    have ea : nI n &&& nI (2 ^ h) = nI (n &&& 2 ^ h) := nI_and (by omega) (by omega)
    have eo : nI n ||| nI (2 ^ h) = nI (n ||| 2 ^ h) := nI_or (by omega) (by omega)
    by_cases c : n &&& 2 ^ h = 0
    · have e : shF μ.1 h n + (odB (pcn n)).toInt64 * (vZ μ.1 (n ||| 2 ^ h) - vZ μ.1 n).toInt64 = shF μ.1 h (n + 1) := by show _ = (if _ then _ else _); rw [if_pos c]
      have z1 : vZ μ'.1 (n ||| 2 ^ h) = vZ μ.1 (n ||| 2 ^ h) := vZ_c (fun c hc => ho.1 c (by omega)) _
      refine wp_iload (pc := 10) dX0_shareOf_10 (by first | rfl | assumption | (repeat first | assumption | rfl | refine aG_n ?_ rfl rfl | refine aG_n2 ?_ rfl rfl rfl)) ?_
      refine wp_bipush (pc := 12) (v := 16) dX0_shareOf_12 (by decide) ?_
      refine wp_icmp_ge (pc := 14) (tgt := 67) dX0_shareOf_14 rfl (fun q => absurd q (nI_ge (a := n) (b := 16) (by omega) (by omega))) (fun _ => ?_)
      refine wp_iload (pc := 17) dX0_shareOf_17 (by first | rfl | assumption | (repeat first | assumption | rfl | refine aG_n ?_ rfl rfl | refine aG_n2 ?_ rfl rfl rfl)) ?_
      refine wp_iload (pc := 19) dX0_shareOf_19 (by first | rfl | assumption | (repeat first | assumption | rfl | refine aG_n ?_ rfl rfl | refine aG_n2 ?_ rfl rfl rfl)) ?_
      refine wp_iand (pc := 21) dX0_shareOf_21 ?_
      refine wp_if_ne (pc := 22) (tgt := 61) dX0_shareOf_22 rfl (fun q => absurd (by rw [ea, c]; rfl) q) (fun _ => ?_)
      refine wp_aload_n (pc := 25) dX0_shareOf_25 (by first | rfl | assumption | (repeat first | assumption | rfl | refine aG_n ?_ rfl rfl | refine aG_n2 ?_ rfl rfl rfl)) ?_
      refine wp_aload_n (pc := 26) dX0_shareOf_26 (by first | rfl | assumption | (repeat first | assumption | rfl | refine aG_n ?_ rfl rfl | refine aG_n2 ?_ rfl rfl rfl)) ?_
      refine wp_iload (pc := 27) dX0_shareOf_27 (by first | rfl | assumption | (repeat first | assumption | rfl | refine aG_n ?_ rfl rfl | refine aG_n2 ?_ rfl rfl rfl)) ?_
      refine wp_iload (pc := 29) dX0_shareOf_29 (by first | rfl | assumption | (repeat first | assumption | rfl | refine aG_n ?_ rfl rfl | refine aG_n2 ?_ rfl rfl rfl)) ?_
      refine wp_ior (pc := 31) dX0_shareOf_31 ?_
      refine wp_cV (pc := 32) dX0_shareOf_32 lk_0_51 rfl (by decide) rfl (by first | rfl | assumption | exact sh_house (by omega) | exact sh_wish (by omega) | exact sh_wor (by omega) | exact sh_bar (by omega) | exact sh_term (by omega) | exact sh_sheet (by omega) | exact sh_items (by omega) | exact sh_sums (by omega)) rfl rfl ?_
      rw [eo]
      refine c_X0_valueOrZero (own_S ho hO) hG b1 (fun μ2 o2 hG2 => ?_)
      rw [z1]
      refine aK_i ?_
      refine wp_aload_n (pc := 35) dX0_shareOf_35 (by first | rfl | assumption | (repeat first | assumption | rfl | refine aG_n ?_ rfl rfl | refine aG_n2 ?_ rfl rfl rfl)) ?_
      refine wp_aload_n (pc := 36) dX0_shareOf_36 (by first | rfl | assumption | (repeat first | assumption | rfl | refine aG_n ?_ rfl rfl | refine aG_n2 ?_ rfl rfl rfl)) ?_
      refine wp_iload (pc := 37) dX0_shareOf_37 (by first | rfl | assumption | (repeat first | assumption | rfl | refine aG_n ?_ rfl rfl | refine aG_n2 ?_ rfl rfl rfl)) ?_
      refine wp_cV (pc := 39) dX0_shareOf_39 lk_0_51 rfl (by decide) rfl (by first | rfl | assumption | exact sh_house (by omega) | exact sh_wish (by omega) | exact sh_wor (by omega) | exact sh_bar (by omega) | exact sh_term (by omega) | exact sh_sheet (by omega) | exact sh_items (by omega) | exact sh_sums (by omega)) rfl rfl ?_
      refine c_X0_valueOrZero (own_S (ho.tr o2) hO) hG2 (show n < 16 by omega) (fun μ3 o3 hG3 => ?_)
      rw [show vZ μ2.1 n = vZ μ.1 n from vZ_c (fun c hc => (ho.tr o2).1 c (by omega)) n]
      refine aK_i ?_
      refine wp_isub (pc := 42) dX0_shareOf_42 ?_
      refine wp_istore (pc := 43) dX0_shareOf_43 (by decide) ?_
      refine wp_lload_n (pc := 45) dX0_shareOf_45 (by first | rfl | assumption | (repeat first | assumption | rfl | refine aG_n ?_ rfl rfl | refine aG_n2 ?_ rfl rfl rfl)) ?_
      refine wp_iload (pc := 46) dX0_shareOf_46 (by first | rfl | assumption | (repeat first | assumption | rfl | refine aG_n ?_ rfl rfl | refine aG_n2 ?_ rfl rfl rfl)) ?_
      refine wp_cS (pc := 48) dX0_shareOf_48 lk_0_54 rfl rfl rfl (c_bitc (show n < 64 by omega) (aK_i ?_))
      refine wp_cS (pc := 51) dX0_shareOf_51 lk_0_60 rfl rfl rfl (c_X0_ordersWith hX (b3 c) (aK_i ?_))
      refine wp_i2l (pc := 54) dX0_shareOf_54 ?_
      refine wp_iload (pc := 55) dX0_shareOf_55 (by first | rfl | assumption | (repeat first | assumption | rfl | refine aG_n ?_ rfl rfl | refine aG_n2 ?_ rfl rfl rfl)) ?_
      refine wp_i2l (pc := 57) dX0_shareOf_57 ?_
      refine wp_lmul (pc := 58) dX0_shareOf_58 ?_
      refine wp_ladd (pc := 59) dX0_shareOf_59 ?_
      refine wp_lstore_n (pc := 60) dX0_shareOf_60 (by decide) ?_
      refine wp_iinc (pc := 61) dX0_shareOf_61 (by decide) (by first | rfl | assumption | (repeat first | assumption | rfl | refine aG_n ?_ rfl rfl | refine aG_n2 ?_ rfl rfl rfl)) rfl ?_
      refine wp_goto (pc := 64) (tgt := 10) dX0_shareOf_64 rfl ?_
      exact l_shr hX hh hO k f (n + 1) (by omega) _ ((ho.tr o2).tr o3) hG3 _ (by first | rfl | assumption | (repeat first | assumption | rfl | refine aG_n ?_ rfl rfl | refine aG_n2 ?_ rfl rfl rfl)) (by first | rfl | assumption | (repeat first | assumption | rfl | refine aG_n ?_ rfl rfl | refine aG_n2 ?_ rfl rfl rfl)) (by rw [← e]; first | rfl | assumption | (repeat first | assumption | rfl | refine aG_n ?_ rfl rfl | refine aG_n2 ?_ rfl rfl rfl)) (by first | rfl | assumption | (repeat first | assumption | rfl | refine aG_n ?_ rfl rfl | refine aG_n2 ?_ rfl rfl rfl)) (by rw [← nI_i1]; first | rfl | assumption | (repeat first | assumption | rfl | refine aG_n ?_ rfl rfl | refine aG_n2 ?_ rfl rfl rfl))
    · have e : shF μ.1 h (n + 1) = shF μ.1 h n := by show (if _ then _ else _) = _; rw [if_neg c]
      refine wp_iload (pc := 10) dX0_shareOf_10 (by first | rfl | assumption | (repeat first | assumption | rfl | refine aG_n ?_ rfl rfl | refine aG_n2 ?_ rfl rfl rfl)) ?_
      refine wp_bipush (pc := 12) (v := 16) dX0_shareOf_12 (by decide) ?_
      refine wp_icmp_ge (pc := 14) (tgt := 67) dX0_shareOf_14 rfl (fun q => absurd q (nI_ge (a := n) (b := 16) (by omega) (by omega))) (fun _ => ?_)
      refine wp_iload (pc := 17) dX0_shareOf_17 (by first | rfl | assumption | (repeat first | assumption | rfl | refine aG_n ?_ rfl rfl | refine aG_n2 ?_ rfl rfl rfl)) ?_
      refine wp_iload (pc := 19) dX0_shareOf_19 (by first | rfl | assumption | (repeat first | assumption | rfl | refine aG_n ?_ rfl rfl | refine aG_n2 ?_ rfl rfl rfl)) ?_
      refine wp_iand (pc := 21) dX0_shareOf_21 ?_
      refine wp_if_ne (pc := 22) (tgt := 61) dX0_shareOf_22 rfl (fun _ => ?_) (fun q => absurd q (by rw [ea]; exact nI_ne0 (by omega) (by omega)))
      refine wp_iinc (pc := 61) dX0_shareOf_61 (by decide) (by first | rfl | assumption | (repeat first | assumption | rfl | refine aG_n ?_ rfl rfl | refine aG_n2 ?_ rfl rfl rfl)) rfl ?_
      refine wp_goto (pc := 64) (tgt := 10) dX0_shareOf_64 rfl ?_
      exact l_shr hX hh hO k f (n + 1) (by omega) _ ho hG _ (by first | rfl | assumption | (repeat first | assumption | rfl | refine aG_n ?_ rfl rfl | refine aG_n2 ?_ rfl rfl rfl)) (by first | rfl | assumption | (repeat first | assumption | rfl | refine aG_n ?_ rfl rfl | refine aG_n2 ?_ rfl rfl rfl)) (by rw [e]; first | rfl | assumption | (repeat first | assumption | rfl | refine aG_n ?_ rfl rfl | refine aG_n2 ?_ rfl rfl rfl)) (by first | rfl | assumption | (repeat first | assumption | rfl | refine aG_n ?_ rfl rfl | refine aG_n2 ?_ rfl rfl rfl)) (by rw [← nI_i1]; first | rfl | assumption | (repeat first | assumption | rfl | refine aG_n ?_ rfl rfl | refine aG_n2 ?_ rfl rfl rfl))
theorem c_X0_shareOf (hX : X 1 = (4, fun j => if j = 1 ∨ j = 2 then 2 else 6)) (hh : h < 4) (hO : I_own μ.1) (hG : I_grp μ.1) (k : ∀ μ', offS μ μ' → I_grp μ'.1 → Q (some (.long (shF μ.1 h 16))) μ') : WP X mX0_shareOf 0 (lv_args 0 [.ref 11, .ref 1, .int (nI h)]) [] μ Q := by
  have es := shl_p h (by omega)
  refine wp_lconst (pc := 0) (v := 0) dX0_shareOf_0 (by decide) ?_
  refine wp_lstore_n (pc := 1) dX0_shareOf_1 (by decide) ?_
  refine wp_iconst (pc := 2) (v := 1) dX0_shareOf_2 (by decide) ?_
  refine wp_iload_n (pc := 3) dX0_shareOf_3 (by first | rfl | assumption | (repeat first | assumption | rfl | refine aG_n ?_ rfl rfl | refine aG_n2 ?_ rfl rfl rfl)) ?_
  refine wp_ishl (pc := 4) dX0_shareOf_4 ?_
  refine wp_istore (pc := 5) dX0_shareOf_5 (by decide) ?_
  refine wp_iconst (pc := 7) (v := 0) dX0_shareOf_7 (by decide) ?_
  refine wp_istore (pc := 8) dX0_shareOf_8 (by decide) ?_
  skip
  rw [es]
  exact l_shr (μ := μ) hX hh hO k 16 0 (by omega) μ ⟨fun _ _ => rfl, rfl⟩ hG _ (by first | rfl | assumption | (repeat first | assumption | rfl | refine aG_n ?_ rfl rfl | refine aG_n2 ?_ rfl rfl rfl)) (by first | rfl | assumption | (repeat first | assumption | rfl | refine aG_n ?_ rfl rfl | refine aG_n2 ?_ rfl rfl rfl)) (by first | rfl | assumption | (repeat first | assumption | rfl | refine aG_n ?_ rfl rfl | refine aG_n2 ?_ rfl rfl rfl)) (by first | rfl | assumption | (repeat first | assumption | rfl | refine aG_n ?_ rfl rfl | refine aG_n2 ?_ rfl rfl rfl)) (by first | rfl | assumption | (repeat first | assumption | rfl | refine aG_n ?_ rfl rfl | refine aG_n2 ?_ rfl rfl rfl))
/-- all VALUES found -/
theorem l_fnd (hW : I_wish μ.1) (k : ∀ μ', offW2 μ μ' → (∀ g, g < 16 → fvR μ'.1 μ.1 g) → ∀ L : aL, aL_get L 0 = some (.ref 86) → aL_get L 1 = some (.int (nI h)) → WP X mX12_share 35 L [] μ' Q) : ∀ (f g : Nat), g + f = 16 → 0 < g → ∀ μ', offW2 μ μ' → (∀ x, x < g → fvR μ'.1 μ.1 x) → ∀ L : aL, aL_get L 0 = some (.ref 86) → aL_get L 1 = some (.int (nI h)) → aL_get L 2 = some (.int (nI g)) → WP X mX12_share 18 L [] μ' Q
  | 0, g, hg, hg0, μ', ho, hf, L, g0, g1, g2 => by
    obtain rfl : g = 16 := by omega
    refine wp_iload_n (pc := 18) dX12_share_18 (by first | rfl | assumption | (repeat first | assumption | rfl | refine aG_n ?_ rfl rfl | refine aG_n2 ?_ rfl rfl rfl)) ?_
    refine wp_bipush (pc := 19) (v := 16) dX12_share_19 (by decide) ?_
    refine wp_icmp_ge (pc := 21) (tgt := 35) dX12_share_21 rfl (fun _ => ?_) (fun q => absurd (nI_le (a := 16) (b := 16) (by omega) (by omega)) q)
    exact k _ ho hf _ g0 g1
  | f + 1, g, hg, hg0, μ', ho, hf, L, g0, g1, g2 => by
    have hW' : I_wish μ'.1 := wish_c ⟨ho.row (by omega), ho.row (by omega), ho.row (by omega), ho.row (by omega)⟩ (fun i hi => ⟨ho.row (by omega), ho.row (by omega), ho.row (by omega)⟩) hW
    have ev : ∀ x, vG μ'.1 x = vG μ.1 x := fun x => vG_c (fun c hc => ho.row (by omega)) x
    refine wp_iload_n (pc := 18) dX12_share_18 (by first | rfl | assumption | (repeat first | assumption | rfl | refine aG_n ?_ rfl rfl | refine aG_n2 ?_ rfl rfl rfl)) ?_
    refine wp_bipush (pc := 19) (v := 16) dX12_share_19 (by decide) ?_
    refine wp_icmp_ge (pc := 21) (tgt := 35) dX12_share_21 rfl (fun q => absurd q (nI_ge (a := g) (b := 16) (by omega) (by omega))) (fun _ => ?_)
    refine wp_aload_n (pc := 24) dX12_share_24 (by first | rfl | assumption | (repeat first | assumption | rfl | refine aG_n ?_ rfl rfl | refine aG_n2 ?_ rfl rfl rfl)) ?_
    refine wp_iload_n (pc := 25) dX12_share_25 (by first | rfl | assumption | (repeat first | assumption | rfl | refine aG_n ?_ rfl rfl | refine aG_n2 ?_ rfl rfl rfl)) ?_
    refine wp_cV (pc := 26) dX12_share_26 lk_12_309 rfl (by decide) rfl (by first | rfl | assumption | exact sh_house (by omega) | exact sh_wish (by omega) | exact sh_wor (by omega) | exact sh_bar (by omega) | exact sh_term (by omega) | exact sh_sheet (by omega) | exact sh_items (by omega) | exact sh_sums (by omega)) rfl rfl ?_
    refine c_X12_findValue hW' (show g < 16 by omega) (fun μ2 o2 r2 => aK_v ?_)
    refine wp_iinc (pc := 29) dX12_share_29 (by decide) (by first | rfl | assumption | (repeat first | assumption | rfl | refine aG_n ?_ rfl rfl | refine aG_n2 ?_ rfl rfl rfl)) rfl ?_
    refine wp_goto (pc := 32) (tgt := 18) dX12_share_32 rfl ?_
    skip
    refine l_fnd hW k f (g + 1) (by omega) (by omega) _ (ho.tr o2.w2) (fun x hx => ?_) _ (by first | rfl | assumption | (repeat first | assumption | rfl | refine aG_n ?_ rfl rfl | refine aG_n2 ?_ rfl rfl rfl)) (by first | rfl | assumption | (repeat first | assumption | rfl | refine aG_n ?_ rfl rfl | refine aG_n2 ?_ rfl rfl rfl)) (by rw [← nI_i1]; first | rfl | assumption | (repeat first | assumption | rfl | refine aG_n ?_ rfl rfl | refine aG_n2 ?_ rfl rfl rfl))
    by_cases e : x = g
    · subst e
      unfold fvR at r2 ⊢
      rw [ev] at r2
      exact r2
    · have := hf x (by omega)
      unfold fvR at this ⊢
      rw [o2.1 107 x (by omega), o2.1 108 x (by omega)]
      exact this
theorem l_cnt {n : Nat} {sm : Int64} (hn : n < 16) (k : ∀ L : aL, aL_get L 0 = some (.ref 86) → aL_get L 1 = some (.int (nI h)) → aL_get L 2 = some (.long sm) → aL_get L 4 = some (.int (nI n)) → aL_get L 5 = some (.int (nI (cn n 4))) → WP X mX12_share 86 L [] μ Q) : ∀ (f x : Nat), x + f = 4 → ∀ L : aL, aL_get L 0 = some (.ref 86) → aL_get L 1 = some (.int (nI h)) → aL_get L 2 = some (.long sm) → aL_get L 4 = some (.int (nI n)) → aL_get L 5 = some (.int (nI (cn n x))) → aL_get L 6 = some (.int (nI x)) → WP X mX12_share 62 L [] μ Q
  | 0, x, hx, L, g0, g1, g2, g4, g5, g6 => by
    obtain rfl : x = 4 := by omega
    refine wp_iload (pc := 62) dX12_share_62 (by first | rfl | assumption | (repeat first | assumption | rfl | refine aG_n ?_ rfl rfl | refine aG_n2 ?_ rfl rfl rfl)) ?_
    refine wp_iconst (pc := 64) (v := 4) dX12_share_64 (by decide) ?_
    refine wp_icmp_ge (pc := 65) (tgt := 86) dX12_share_65 rfl (fun _ => ?_) (fun q => absurd (nI_le (a := 4) (b := 4) (by omega) (by omega)) q)
    exact k _ g0 g1 g2 g4 g5
  | f + 1, x, hx, L, g0, g1, g2, g4, g5, g6 => by
    have e : nI (cn n x) + ((nI n >>> (nI x &&& 31)) &&& 1) = nI (cn n (x + 1)) := by
      by_cases hb : n.testBit x = true
      · rw [(bit_i n (by omega) x (by omega)).mpr hb, cn_y hb]; exact nI_1 _
      · rw [(bit_0 n (by omega) x (by omega)).mpr (by rw [Bool.not_eq_true] at hb; exact hb), cn_n hb]; exact Int32.add_zero _
    refine wp_iload (pc := 62) dX12_share_62 (by first | rfl | assumption | (repeat first | assumption | rfl | refine aG_n ?_ rfl rfl | refine aG_n2 ?_ rfl rfl rfl)) ?_
    refine wp_iconst (pc := 64) (v := 4) dX12_share_64 (by decide) ?_
    refine wp_icmp_ge (pc := 65) (tgt := 86) dX12_share_65 rfl (fun q => absurd q (nI_ge (a := x) (b := 4) (by omega) (by omega))) (fun _ => ?_)
    refine wp_iload (pc := 68) dX12_share_68 (by first | rfl | assumption | (repeat first | assumption | rfl | refine aG_n ?_ rfl rfl | refine aG_n2 ?_ rfl rfl rfl)) ?_
    refine wp_iload (pc := 70) dX12_share_70 (by first | rfl | assumption | (repeat first | assumption | rfl | refine aG_n ?_ rfl rfl | refine aG_n2 ?_ rfl rfl rfl)) ?_
    refine wp_iload (pc := 72) dX12_share_72 (by first | rfl | assumption | (repeat first | assumption | rfl | refine aG_n ?_ rfl rfl | refine aG_n2 ?_ rfl rfl rfl)) ?_
    refine wp_ishr (pc := 74) dX12_share_74 ?_
    refine wp_iconst (pc := 75) (v := 1) dX12_share_75 (by decide) ?_
    refine wp_iand (pc := 76) dX12_share_76 ?_
    refine wp_iadd (pc := 77) dX12_share_77 ?_
    refine wp_istore (pc := 78) dX12_share_78 (by decide) ?_
    refine wp_iinc (pc := 80) dX12_share_80 (by decide) (by first | rfl | assumption | (repeat first | assumption | rfl | refine aG_n ?_ rfl rfl | refine aG_n2 ?_ rfl rfl rfl)) rfl ?_
    refine wp_goto (pc := 83) (tgt := 62) dX12_share_83 rfl ?_
    exact l_cnt hn k f (x + 1) (by omega) _ (by first | rfl | assumption | (repeat first | assumption | rfl | refine aG_n ?_ rfl rfl | refine aG_n2 ?_ rfl rfl rfl)) (by first | rfl | assumption | (repeat first | assumption | rfl | refine aG_n ?_ rfl rfl | refine aG_n2 ?_ rfl rfl rfl)) (by first | rfl | assumption | (repeat first | assumption | rfl | refine aG_n ?_ rfl rfl | refine aG_n2 ?_ rfl rfl rfl)) (by first | rfl | assumption | (repeat first | assumption | rfl | refine aG_n ?_ rfl rfl | refine aG_n2 ?_ rfl rfl rfl)) (by rw [← e]; first | rfl | assumption | (repeat first | assumption | rfl | refine aG_n ?_ rfl rfl | refine aG_n2 ?_ rfl rfl rfl)) (by rw [← nI_i1]; first | rfl | assumption | (repeat first | assumption | rfl | refine aG_n ?_ rfl rfl | refine aG_n2 ?_ rfl rfl rfl))
theorem l_shM {B : MM} (hh : h < 4) (hf : ∀ g, g < 16 → μ.1 107 g = vZ B g) (k : Q (some (.long (shF B h 16))) μ) : ∀ (f n : Nat), n + f = 16 → ∀ L : aL, aL_get L 0 = some (.ref 86) → aL_get L 1 = some (.int (nI h)) → aL_get L 2 = some (.long (shF B h n)) → aL_get L 4 = some (.int (nI n)) → WP X mX12_share 40 L [] μ Q
  | 0, n, hn, L, g0, g1, g2, g4 => by
    obtain rfl : n = 16 := by omega
    refine wp_iload (pc := 40) dX12_share_40 (by first | rfl | assumption | (repeat first | assumption | rfl | refine aG_n ?_ rfl rfl | refine aG_n2 ?_ rfl rfl rfl)) ?_
    refine wp_bipush (pc := 42) (v := 16) dX12_share_42 (by decide) ?_
    refine wp_icmp_ge (pc := 44) (tgt := 140) dX12_share_44 rfl (fun _ => ?_) (fun q => absurd (nI_le (a := 16) (b := 16) (by omega) (by omega)) q)
    refine wp_lload_n (pc := 140) dX12_share_140 (by first | rfl | assumption | (repeat first | assumption | rfl | refine aG_n ?_ rfl rfl | refine aG_n2 ?_ rfl rfl rfl)) ?_
    refine wp_lreturn (pc := 141) dX12_share_141 rfl ?_
    exact k
  | f + 1, n, hn, L, g0, g1, g2, g4 => by
    obtain ⟨b1, b2, b3, b4, b5, b6⟩ := sh_bits n (by omega) h hh
    have es := shl_p h (by omega)
    have eo : nI n ||| nI (2 ^ h) = nI (n ||| 2 ^ h) := nI_or (by omega) (by omega)
    have co : (nI (n ||| 2 ^ h)).toNatClampNeg = n ||| 2 ^ h := nI_clamp (by omega)
    have cn' : (nI n).toNatClampNeg = n := nI_clamp (by omega)
    have h4 := cn_le n 4
    by_cases c : n &&& 2 ^ h = 0
    · have e : shF B h n + (odB (pcn n)).toInt64 * (vZ B (n ||| 2 ^ h) - vZ B n).toInt64 = shF B h (n + 1) := by show _ = (if _ then _ else _); rw [if_pos c]
      rw [b5] at e
      have tail : ∀ (od : Int64), od = (odB (cn n 4)).toInt64 → ∀ L : aL, aL_get L 0 = some (.ref 86) → aL_get L 1 = some (.int (nI h)) → aL_get L 2 = some (.long (shF B h n)) → aL_get L 4 = some (.int (nI n)) → aL_get L 6 = some (.long od) → WP X mX12_share 108 L [] μ Q := by
        intro od hod L g0 g1 g2 g4 g6
        subst hod
        refine wp_lload_n (pc := 108) dX12_share_108 (by first | rfl | assumption | (repeat first | assumption | rfl | refine aG_n ?_ rfl rfl | refine aG_n2 ?_ rfl rfl rfl)) ?_
        refine wp_lload (pc := 109) dX12_share_109 (by first | rfl | assumption | (repeat first | assumption | rfl | refine aG_n ?_ rfl rfl | refine aG_n2 ?_ rfl rfl rfl)) ?_
        refine wp_aload_n (pc := 111) dX12_share_111 (by first | rfl | assumption | (repeat first | assumption | rfl | refine aG_n ?_ rfl rfl | refine aG_n2 ?_ rfl rfl rfl)) ?_
        refine wp_getR (pc := 112) dX12_share_112 fl_12_71 (by first | rfl | assumption | exact sh_house (by omega) | exact sh_wish (by omega) | exact sh_wor (by omega) | exact sh_bar (by omega) | exact sh_term (by omega) | exact sh_sheet (by omega) | exact sh_items (by omega) | exact sh_sums (by omega)) rfl ?_
        refine wp_iload (pc := 115) dX12_share_115 (by first | rfl | assumption | (repeat first | assumption | rfl | refine aG_n ?_ rfl rfl | refine aG_n2 ?_ rfl rfl rfl)) ?_
        refine wp_iconst (pc := 117) (v := 1) dX12_share_117 (by decide) ?_
        refine wp_iload_n (pc := 118) dX12_share_118 (by first | rfl | assumption | (repeat first | assumption | rfl | refine aG_n ?_ rfl rfl | refine aG_n2 ?_ rfl rfl rfl)) ?_
        refine wp_ishl (pc := 119) dX12_share_119 ?_
        refine wp_ior (pc := 120) dX12_share_120 ?_
        refine wp_iald (pc := 121) dX12_share_121 (by first | rfl | assumption | exact sh_house (by omega) | exact sh_wish (by omega) | exact sh_wor (by omega) | exact sh_bar (by omega) | exact sh_term (by omega) | exact sh_sheet (by omega) | exact sh_items (by omega) | exact sh_sums (by omega)) (by rw [es, eo]; exact vp_in_nI (by omega) (by decide)) ?_
        refine wp_aload_n (pc := 122) dX12_share_122 (by first | rfl | assumption | (repeat first | assumption | rfl | refine aG_n ?_ rfl rfl | refine aG_n2 ?_ rfl rfl rfl)) ?_
        refine wp_getR (pc := 123) dX12_share_123 fl_12_71 (by first | rfl | assumption | exact sh_house (by omega) | exact sh_wish (by omega) | exact sh_wor (by omega) | exact sh_bar (by omega) | exact sh_term (by omega) | exact sh_sheet (by omega) | exact sh_items (by omega) | exact sh_sums (by omega)) rfl ?_
        refine wp_iload (pc := 126) dX12_share_126 (by first | rfl | assumption | (repeat first | assumption | rfl | refine aG_n ?_ rfl rfl | refine aG_n2 ?_ rfl rfl rfl)) ?_
        refine wp_iald (pc := 128) dX12_share_128 (by first | rfl | assumption | exact sh_house (by omega) | exact sh_wish (by omega) | exact sh_wor (by omega) | exact sh_bar (by omega) | exact sh_term (by omega) | exact sh_sheet (by omega) | exact sh_items (by omega) | exact sh_sums (by omega)) (vp_in_nI (by omega) (by decide)) ?_
        refine wp_isub (pc := 129) dX12_share_129 ?_
        refine wp_i2l (pc := 130) dX12_share_130 ?_
        refine wp_lmul (pc := 131) dX12_share_131 ?_
        refine wp_ladd (pc := 132) dX12_share_132 ?_
        refine wp_lstore_n (pc := 133) dX12_share_133 (by decide) ?_
        refine wp_iinc (pc := 134) dX12_share_134 (by decide) (by first | rfl | assumption | (repeat first | assumption | rfl | refine aG_n ?_ rfl rfl | refine aG_n2 ?_ rfl rfl rfl)) rfl ?_
        refine wp_goto (pc := 137) (tgt := 40) dX12_share_137 rfl ?_
        skip
        rw [es, eo, co, cn', hf _ b1, hf n (by omega)]
        exact l_shM hh hf k f (n + 1) (by omega) _ (by first | rfl | assumption | (repeat first | assumption | rfl | refine aG_n ?_ rfl rfl | refine aG_n2 ?_ rfl rfl rfl)) (by first | rfl | assumption | (repeat first | assumption | rfl | refine aG_n ?_ rfl rfl | refine aG_n2 ?_ rfl rfl rfl)) (by rw [← e]; first | rfl | assumption | (repeat first | assumption | rfl | refine aG_n ?_ rfl rfl | refine aG_n2 ?_ rfl rfl rfl)) (by rw [← nI_i1]; first | rfl | assumption | (repeat first | assumption | rfl | refine aG_n ?_ rfl rfl | refine aG_n2 ?_ rfl rfl rfl))
      refine wp_iload (pc := 40) dX12_share_40 (by first | rfl | assumption | (repeat first | assumption | rfl | refine aG_n ?_ rfl rfl | refine aG_n2 ?_ rfl rfl rfl)) ?_
      refine wp_bipush (pc := 42) (v := 16) dX12_share_42 (by decide) ?_
      refine wp_icmp_ge (pc := 44) (tgt := 140) dX12_share_44 rfl (fun q => absurd q (nI_ge (a := n) (b := 16) (by omega) (by omega))) (fun _ => ?_)
      refine wp_iload (pc := 47) dX12_share_47 (by first | rfl | assumption | (repeat first | assumption | rfl | refine aG_n ?_ rfl rfl | refine aG_n2 ?_ rfl rfl rfl)) ?_
      refine wp_iload_n (pc := 49) dX12_share_49 (by first | rfl | assumption | (repeat first | assumption | rfl | refine aG_n ?_ rfl rfl | refine aG_n2 ?_ rfl rfl rfl)) ?_
      refine wp_ishr (pc := 50) dX12_share_50 ?_
      refine wp_iconst (pc := 51) (v := 1) dX12_share_51 (by decide) ?_
      refine wp_iand (pc := 52) dX12_share_52 ?_
      refine wp_if_ne (pc := 53) (tgt := 134) dX12_share_53 rfl (fun q => absurd ((bit_0 n (by omega) h (by omega)).mpr (b4.mp c)) q) (fun _ => ?_)
      refine wp_iconst (pc := 56) (v := 0) dX12_share_56 (by decide) ?_
      refine wp_istore (pc := 57) dX12_share_57 (by decide) ?_
      refine wp_iconst (pc := 59) (v := 0) dX12_share_59 (by decide) ?_
      refine wp_istore (pc := 60) dX12_share_60 (by decide) ?_
      skip
      refine l_cnt (n := n) (by omega) (fun L g0 g1 g2 g4 g5 => ?_) 4 0 (by omega) _ (by first | rfl | assumption | (repeat first | assumption | rfl | refine aG_n ?_ rfl rfl | refine aG_n2 ?_ rfl rfl rfl)) (by first | rfl | assumption | (repeat first | assumption | rfl | refine aG_n ?_ rfl rfl | refine aG_n2 ?_ rfl rfl rfl)) (by first | rfl | assumption | (repeat first | assumption | rfl | refine aG_n ?_ rfl rfl | refine aG_n2 ?_ rfl rfl rfl)) (by first | rfl | assumption | (repeat first | assumption | rfl | refine aG_n ?_ rfl rfl | refine aG_n2 ?_ rfl rfl rfl)) (by first | rfl | assumption | (repeat first | assumption | rfl | refine aG_n ?_ rfl rfl | refine aG_n2 ?_ rfl rfl rfl)) (by first | rfl | assumption | (repeat first | assumption | rfl | refine aG_n ?_ rfl rfl | refine aG_n2 ?_ rfl rfl rfl))
      have hlt : cn n 4 < 4 := by rw [← b5]; exact b3 c
      by_cases z0 : cn n 4 = 0
      · refine wp_iload (pc := 86) dX12_share_86 (by first | rfl | assumption | (repeat first | assumption | rfl | refine aG_n ?_ rfl rfl | refine aG_n2 ?_ rfl rfl rfl)) ?_
        refine wp_if_eq (pc := 88) (tgt := 97) dX12_share_88 rfl (fun _ => ?_) (fun q => absurd (by rw [z0]; rfl) q)
        refine wp_ldc2 (pc := 97) dX12_share_97 cl_12_317 ?_
        refine wp_goto (pc := 100) (tgt := 106) dX12_share_100 rfl ?_
        refine wp_lstore (pc := 106) dX12_share_106 (by decide) ?_
        exact tail 6 (by rw [z0]; rfl) _ (by first | rfl | assumption | (repeat first | assumption | rfl | refine aG_n ?_ rfl rfl | refine aG_n2 ?_ rfl rfl rfl)) (by first | rfl | assumption | (repeat first | assumption | rfl | refine aG_n ?_ rfl rfl | refine aG_n2 ?_ rfl rfl rfl)) (by first | rfl | assumption | (repeat first | assumption | rfl | refine aG_n ?_ rfl rfl | refine aG_n2 ?_ rfl rfl rfl)) (by first | rfl | assumption | (repeat first | assumption | rfl | refine aG_n ?_ rfl rfl | refine aG_n2 ?_ rfl rfl rfl)) (by first | rfl | assumption | (repeat first | assumption | rfl | refine aG_n ?_ rfl rfl | refine aG_n2 ?_ rfl rfl rfl))
      · by_cases z3 : cn n 4 = 3
        · refine wp_iload (pc := 86) dX12_share_86 (by first | rfl | assumption | (repeat first | assumption | rfl | refine aG_n ?_ rfl rfl | refine aG_n2 ?_ rfl rfl rfl)) ?_
          refine wp_if_eq (pc := 88) (tgt := 97) dX12_share_88 rfl (fun q => absurd q (nI_ne0 (by omega) (by omega))) (fun _ => ?_)
          refine wp_iload (pc := 91) dX12_share_91 (by first | rfl | assumption | (repeat first | assumption | rfl | refine aG_n ?_ rfl rfl | refine aG_n2 ?_ rfl rfl rfl)) ?_
          refine wp_iconst (pc := 93) (v := 3) dX12_share_93 (by decide) ?_
          refine wp_icmp_ne (pc := 94) (tgt := 103) dX12_share_94 rfl (fun q => absurd (by rw [z3]; rfl) q) (fun _ => ?_)
          refine wp_ldc2 (pc := 97) dX12_share_97 cl_12_317 ?_
          refine wp_goto (pc := 100) (tgt := 106) dX12_share_100 rfl ?_
          refine wp_lstore (pc := 106) dX12_share_106 (by decide) ?_
          exact tail 6 (by rw [z3]; rfl) _ (by first | rfl | assumption | (repeat first | assumption | rfl | refine aG_n ?_ rfl rfl | refine aG_n2 ?_ rfl rfl rfl)) (by first | rfl | assumption | (repeat first | assumption | rfl | refine aG_n ?_ rfl rfl | refine aG_n2 ?_ rfl rfl rfl)) (by first | rfl | assumption | (repeat first | assumption | rfl | refine aG_n ?_ rfl rfl | refine aG_n2 ?_ rfl rfl rfl)) (by first | rfl | assumption | (repeat first | assumption | rfl | refine aG_n ?_ rfl rfl | refine aG_n2 ?_ rfl rfl rfl)) (by first | rfl | assumption | (repeat first | assumption | rfl | refine aG_n ?_ rfl rfl | refine aG_n2 ?_ rfl rfl rfl))
        · have e2 : odB (cn n 4) = 2 := if_pos (by omega)
          refine wp_iload (pc := 86) dX12_share_86 (by first | rfl | assumption | (repeat first | assumption | rfl | refine aG_n ?_ rfl rfl | refine aG_n2 ?_ rfl rfl rfl)) ?_
          refine wp_if_eq (pc := 88) (tgt := 97) dX12_share_88 rfl (fun q => absurd q (nI_ne0 (by omega) (by omega))) (fun _ => ?_)
          refine wp_iload (pc := 91) dX12_share_91 (by first | rfl | assumption | (repeat first | assumption | rfl | refine aG_n ?_ rfl rfl | refine aG_n2 ?_ rfl rfl rfl)) ?_
          refine wp_iconst (pc := 93) (v := 3) dX12_share_93 (by decide) ?_
          refine wp_icmp_ne (pc := 94) (tgt := 103) dX12_share_94 rfl (fun _ => ?_) (fun q => absurd q (by rw [show (3 : Int32) = nI 3 from rfl, nI_eq (by omega) (by omega)]; exact z3))
          refine wp_ldc2 (pc := 103) dX12_share_103 cl_12_212 ?_
          refine wp_lstore (pc := 106) dX12_share_106 (by decide) ?_
          exact tail 2 (by rw [e2]; rfl) _ (by first | rfl | assumption | (repeat first | assumption | rfl | refine aG_n ?_ rfl rfl | refine aG_n2 ?_ rfl rfl rfl)) (by first | rfl | assumption | (repeat first | assumption | rfl | refine aG_n ?_ rfl rfl | refine aG_n2 ?_ rfl rfl rfl)) (by first | rfl | assumption | (repeat first | assumption | rfl | refine aG_n ?_ rfl rfl | refine aG_n2 ?_ rfl rfl rfl)) (by first | rfl | assumption | (repeat first | assumption | rfl | refine aG_n ?_ rfl rfl | refine aG_n2 ?_ rfl rfl rfl)) (by first | rfl | assumption | (repeat first | assumption | rfl | refine aG_n ?_ rfl rfl | refine aG_n2 ?_ rfl rfl rfl))
    · have e : shF B h (n + 1) = shF B h n := by show (if _ then _ else _) = _; rw [if_neg c]
      have hb : ¬ n.testBit h = false := fun z => c (b4.mpr z)
      refine wp_iload (pc := 40) dX12_share_40 (by first | rfl | assumption | (repeat first | assumption | rfl | refine aG_n ?_ rfl rfl | refine aG_n2 ?_ rfl rfl rfl)) ?_
      refine wp_bipush (pc := 42) (v := 16) dX12_share_42 (by decide) ?_
      refine wp_icmp_ge (pc := 44) (tgt := 140) dX12_share_44 rfl (fun q => absurd q (nI_ge (a := n) (b := 16) (by omega) (by omega))) (fun _ => ?_)
      refine wp_iload (pc := 47) dX12_share_47 (by first | rfl | assumption | (repeat first | assumption | rfl | refine aG_n ?_ rfl rfl | refine aG_n2 ?_ rfl rfl rfl)) ?_
      refine wp_iload_n (pc := 49) dX12_share_49 (by first | rfl | assumption | (repeat first | assumption | rfl | refine aG_n ?_ rfl rfl | refine aG_n2 ?_ rfl rfl rfl)) ?_
      refine wp_ishr (pc := 50) dX12_share_50 ?_
      refine wp_iconst (pc := 51) (v := 1) dX12_share_51 (by decide) ?_
      refine wp_iand (pc := 52) dX12_share_52 ?_
      refine wp_if_ne (pc := 53) (tgt := 134) dX12_share_53 rfl (fun _ => ?_) (fun q => absurd q (fun z => hb ((bit_0 n (by omega) h (by omega)).mp z)))
      refine wp_iinc (pc := 134) dX12_share_134 (by decide) (by first | rfl | assumption | (repeat first | assumption | rfl | refine aG_n ?_ rfl rfl | refine aG_n2 ?_ rfl rfl rfl)) rfl ?_
      refine wp_goto (pc := 137) (tgt := 40) dX12_share_137 rfl ?_
      exact l_shM hh hf k f (n + 1) (by omega) _ (by first | rfl | assumption | (repeat first | assumption | rfl | refine aG_n ?_ rfl rfl | refine aG_n2 ?_ rfl rfl rfl)) (by first | rfl | assumption | (repeat first | assumption | rfl | refine aG_n ?_ rfl rfl | refine aG_n2 ?_ rfl rfl rfl)) (by rw [e]; first | rfl | assumption | (repeat first | assumption | rfl | refine aG_n ?_ rfl rfl | refine aG_n2 ?_ rfl rfl rfl)) (by rw [← nI_i1]; first | rfl | assumption | (repeat first | assumption | rfl | refine aG_n ?_ rfl rfl | refine aG_n2 ?_ rfl rfl rfl))
end SHARE
theorem J_share {X : aX} (hX : X 1 = (4, fun j => if j = 1 ∨ j = 2 then 2 else 6)) (a : Int32) : JntLX X mX11_share mX12_share [.int a] := by
  intro μ Q hI k
  by_cases c1 : inR a 0 3
  · obtain ⟨h, hh, rfl⟩ := inR_of (n := 3) c1
    refine wp_iload_n (pc := 0) dX11_share_0 (by first | rfl | assumption | (repeat first | assumption | rfl | refine aG_n ?_ rfl rfl | refine aG_n2 ?_ rfl rfl rfl)) ?_
    refine wp_cS (pc := 1) dX11_share_1 lk_11_101 rfl rfl rfl (c_X11_isHouse (fun _ => aK_i ?_) (fun q => absurd c1 q))
    refine wp_if_ne (pc := 4) (tgt := 11) dX11_share_4 rfl (fun _ => ?_) (fun q => absurd q (by decide))
    refine wp_aload_n (pc := 11) dX11_share_11 (by first | rfl | assumption | (repeat first | assumption | rfl | refine aG_n ?_ rfl rfl | refine aG_n2 ?_ rfl rfl rfl)) ?_
    refine wp_getR (pc := 12) dX11_share_12 fl_11_39 (by first | rfl | assumption | exact sh_house (by omega) | exact sh_wish (by omega) | exact sh_wor (by omega) | exact sh_bar (by omega) | exact sh_term (by omega) | exact sh_sheet (by omega) | exact sh_items (by omega) | exact sh_sums (by omega)) rfl ?_
    refine wp_aload_n (pc := 15) dX11_share_15 (by first | rfl | assumption | (repeat first | assumption | rfl | refine aG_n ?_ rfl rfl | refine aG_n2 ?_ rfl rfl rfl)) ?_
    refine wp_getR (pc := 16) dX11_share_16 fl_11_11 (by first | rfl | assumption | exact sh_house (by omega) | exact sh_wish (by omega) | exact sh_wor (by omega) | exact sh_bar (by omega) | exact sh_term (by omega) | exact sh_sheet (by omega) | exact sh_items (by omega) | exact sh_sums (by omega)) rfl ?_
    refine wp_iload_n (pc := 19) dX11_share_19 (by first | rfl | assumption | (repeat first | assumption | rfl | refine aG_n ?_ rfl rfl | refine aG_n2 ?_ rfl rfl rfl)) ?_
    refine wp_cV (pc := 20) dX11_share_20 lk_11_284 rfl (by decide) rfl (by first | rfl | assumption | exact sh_house (by omega) | exact sh_wish (by omega) | exact sh_wor (by omega) | exact sh_bar (by omega) | exact sh_term (by omega) | exact sh_sheet (by omega) | exact sh_items (by omega) | exact sh_sums (by omega)) rfl rfl ?_
    refine c_X0_shareOf hX (show h < 4 by omega) hI.1 hI.2.2.2.2.2.2.2.2.2 (fun μ1 o1 hG1 => aK_l ?_)
    refine wp_lreturn (pc := 23) dX11_share_23 rfl ?_
    refine k _ _ (fun Q' k' => ?_)
    have hI1 := Inv_S hI o1 hG1
    have ef := shF_c (M := μ.1) (M' := μ1.1) (fun c hc => o1.1 c (by omega)) h 16
    refine wp_iload_n (pc := 0) dX12_share_0 (by first | rfl | assumption | (repeat first | assumption | rfl | refine aG_n ?_ rfl rfl | refine aG_n2 ?_ rfl rfl rfl)) ?_
    refine wp_cS (pc := 1) dX12_share_1 lk_12_143 rfl rfl rfl (c_X12_isHouse (fun _ => aK_i ?_) (fun q => absurd c1 q))
    refine wp_if_ne (pc := 4) (tgt := 11) dX12_share_4 rfl (fun _ => ?_) (fun q => absurd q (by decide))
    refine wp_aload_n (pc := 11) dX12_share_11 (by first | rfl | assumption | (repeat first | assumption | rfl | refine aG_n ?_ rfl rfl | refine aG_n2 ?_ rfl rfl rfl)) ?_
    refine wp_iconst (pc := 12) (v := 0) dX12_share_12 (by decide) ?_
    refine wp_cV (pc := 13) dX12_share_13 lk_12_309 rfl (by decide) rfl (by first | rfl | assumption | exact sh_house (by omega) | exact sh_wish (by omega) | exact sh_wor (by omega) | exact sh_bar (by omega) | exact sh_term (by omega) | exact sh_sheet (by omega) | exact sh_items (by omega) | exact sh_sums (by omega)) rfl rfl ?_
    refine c_X12_findValue (g := 0) hI1.2.2.2.1 (by decide) (fun μ2 o2 r2 => aK_v ?_)
    refine wp_iconst (pc := 16) (v := 1) dX12_share_16 (by decide) ?_
    refine wp_istore_n (pc := 17) dX12_share_17 (by decide) ?_
    skip
    refine l_fnd (μ := μ1) (h := h) hI1.2.2.2.1 (fun μ3 o3 hf L g0 g1 => ?_) 15 1 (by omega) (by omega) μ2 o2.w2 (fun x hx => by
      obtain rfl : x = 0 := by omega
      exact r2) _ (by first | rfl | assumption | (repeat first | assumption | rfl | refine aG_n ?_ rfl rfl | refine aG_n2 ?_ rfl rfl rfl)) (by first | rfl | assumption | (repeat first | assumption | rfl | refine aG_n ?_ rfl rfl | refine aG_n2 ?_ rfl rfl rfl)) (by first | rfl | assumption | (repeat first | assumption | rfl | refine aG_n ?_ rfl rfl | refine aG_n2 ?_ rfl rfl rfl))
    refine wp_lconst (pc := 35) (v := 0) dX12_share_35 (by decide) ?_
    refine wp_lstore_n (pc := 36) dX12_share_36 (by decide) ?_
    refine wp_iconst (pc := 37) (v := 0) dX12_share_37 (by decide) ?_
    refine wp_istore (pc := 38) dX12_share_38 (by decide) ?_
    skip
    refine l_shM (B := μ1.1) (h := h) (by omega) (fun g hg => ?_) (by rw [ef]; exact k' _ (Inv_W2 hI1 o3)) 16 0 (by omega) _ (by first | rfl | assumption | (repeat first | assumption | rfl | refine aG_n ?_ rfl rfl | refine aG_n2 ?_ rfl rfl rfl)) (by first | rfl | assumption | (repeat first | assumption | rfl | refine aG_n ?_ rfl rfl | refine aG_n2 ?_ rfl rfl rfl)) (by first | rfl | assumption | (repeat first | assumption | rfl | refine aG_n ?_ rfl rfl | refine aG_n2 ?_ rfl rfl rfl)) (by first | rfl | assumption | (repeat first | assumption | rfl | refine aG_n ?_ rfl rfl | refine aG_n2 ?_ rfl rfl rfl))
    unfold vZ
    rcases hf g hg with ⟨-, h7, hz⟩ | ⟨-, hg0, h7, hn⟩
    · rw [h7]
      rcases hz with z | z
      · rw [if_pos z]
      · by_cases q : g = 0
        · rw [if_pos q]
        · rw [if_neg q, if_pos z]
    · rw [if_neg (by omega), if_neg hn]; exact h7
  · refine wp_iload_n (pc := 0) dX11_share_0 (by first | rfl | assumption | (repeat first | assumption | rfl | refine aG_n ?_ rfl rfl | refine aG_n2 ?_ rfl rfl rfl)) ?_
    refine wp_cS (pc := 1) dX11_share_1 lk_11_101 rfl rfl rfl (c_X11_isHouse (fun q => absurd q c1) (fun _ => aK_i ?_))
    refine wp_if_ne (pc := 4) (tgt := 11) dX11_share_4 rfl (fun q => absurd q (by decide)) (fun _ => ?_)
    refine wp_ldc2 (pc := 7) dX11_share_7 cl_11_282 ?_
    refine wp_lreturn (pc := 10) dX11_share_10 rfl ?_
    refine k _ _ (fun Q' k' => ?_)
    refine wp_iload_n (pc := 0) dX12_share_0 (by first | rfl | assumption | (repeat first | assumption | rfl | refine aG_n ?_ rfl rfl | refine aG_n2 ?_ rfl rfl rfl)) ?_
    refine wp_cS (pc := 1) dX12_share_1 lk_12_143 rfl rfl rfl (c_X12_isHouse (fun q => absurd q c1) (fun _ => aK_i ?_))
    refine wp_if_ne (pc := 4) (tgt := 11) dX12_share_4 rfl (fun q => absurd q (by decide)) (fun _ => ?_)
    refine wp_ldc2 (pc := 7) dX12_share_7 cl_12_315 ?_
    refine wp_lreturn (pc := 10) dX12_share_10 rfl ?_
    exact k' _ hI

/-! the model looks for a group's VALUE -/
def offV (g : Nat) (μ μ' : Mm) : Prop := (∀ c j, ¬ (c = 109 ∨ c = 110 ∨ ((c = 107 ∨ c = 108) ∧ j = g)) → μ'.1 c j = μ.1 c j) ∧ μ'.2 = μ.2
theorem offV.tr {g : Nat} {μ μ' μ'' : Mm} (h : offV g μ μ') (h' : offV g μ' μ'') : offV g μ μ'' := ⟨fun c j hc => (h'.1 c j hc).trans (h.1 c j hc), h'.2.trans h.2⟩
theorem offV.rf {g : Nat} {μ : Mm} : offV g μ μ := ⟨fun _ _ _ => rfl, rfl⟩
theorem offV.row {g : Nat} {μ μ' : Mm} (h : offV g μ μ') {c : Nat} (hc : ¬ (107 ≤ c ∧ c ≤ 110)) : μ'.1 c = μ.1 c := funext fun j => h.1 c j (by omega)
theorem offV.wish {g : Nat} {μ μ' : Mm} (h : offV g μ μ') (hW : I_wish μ.1) : I_wish μ'.1 := wish_c ⟨h.row (by omega), h.row (by omega), h.row (by omega), h.row (by omega)⟩ (fun i hi => ⟨h.row (by omega), h.row (by omega), h.row (by omega)⟩) hW
def fvL (L : aL) (g m T all c : Nat) : Prop := aL_get L 0 = some (.ref 86) ∧ aL_get L 1 = some (.int (nI g)) ∧ aL_get L 2 = some (.int (nI m)) ∧ aL_get L 3 = some (.int (nI T)) ∧ aL_get L 4 = some (.int (nI all)) ∧ aL_get L 5 = some (.int (nI c))
def mbP (M : MM) (g : Nat) : Prop := ∀ h, h < 4 → g.testBit h = true → M 109 (cn g h) = nI h
section FINDV
variable {X : aX} {μ : Mm} {Q : Option Value → Mm → Prop} {g T m all c : Nat}
theorem l_fv1 (hg : g < 16) (k : ∀ μ' : Mm, offV g μ μ' → mbP μ'.1 g → ∀ L : aL, aL_get L 0 = some (.ref 86) → aL_get L 1 = some (.int (nI g)) → aL_get L 2 = some (.int (nI (cn g 4))) → aL_get L 3 = some (.int (nI (tG μ.1 g 4))) → WP X mX12_findValue 49 L [] μ' Q) : ∀ (f h : Nat), h + f = 4 → ∀ μ' : Mm, offV g μ μ' → (∀ x, x < h → g.testBit x = true → μ'.1 109 (cn g x) = nI x) → ∀ L : aL, aL_get L 0 = some (.ref 86) → aL_get L 1 = some (.int (nI g)) → aL_get L 2 = some (.int (nI (cn g h))) → aL_get L 3 = some (.int (nI (tG μ.1 g h))) → aL_get L 4 = some (.int (nI h)) → WP X mX12_findValue 7 L [] μ' Q
  | 0, h, hh, μ', ho, hm, L, g0, g1, g2, g3, g4 => by
    obtain rfl : h = 4 := by omega
    refine wp_iload (pc := 7) dX12_findValue_7 (by first | rfl | assumption | (repeat first | assumption | rfl | refine aG_n ?_ rfl rfl)) ?_
    refine wp_iconst (pc := 9) (v := 4) dX12_findValue_9 (by decide) ?_
    refine wp_icmp_ge (pc := 10) (tgt := 49) dX12_findValue_10 rfl (fun _ => ?_) (fun q => absurd (nI_le (a := 4) (b := 4) (by omega) (by omega)) q)
    exact k _ ho hm _ g0 g1 g2 g3
  | f + 1, h, hh, μ', ho, hm, L, g0, g1, g2, g3, g4 => by
    have hc := cn_le g h
    have cc : (nI (cn g h)).toNatClampNeg = cn g h := nI_clamp (by omega)
    by_cases hb : g.testBit h = true
    · have eT : nI (tG μ.1 g h) ||| nI (tsF (μ.1 87) h 6) = nI (tG μ.1 g (h + 1)) := by
        rw [show tG μ.1 g (h + 1) = tG μ.1 g h ||| th μ.1 h from if_pos hb]
        exact or6 (tG_lt _ _ _) (th_lt _ _)
      refine wp_iload (pc := 7) dX12_findValue_7 (by first | rfl | assumption | (repeat first | assumption | rfl | refine aG_n ?_ rfl rfl)) ?_
      refine wp_iconst (pc := 9) (v := 4) dX12_findValue_9 (by decide) ?_
      refine wp_icmp_ge (pc := 10) (tgt := 49) dX12_findValue_10 rfl (fun q => absurd q (nI_ge (a := h) (b := 4) (by omega) (by omega))) (fun _ => ?_)
      refine wp_iload_n (pc := 13) dX12_findValue_13 (by first | rfl | assumption | (repeat first | assumption | rfl | refine aG_n ?_ rfl rfl)) ?_
      refine wp_iload (pc := 14) dX12_findValue_14 (by first | rfl | assumption | (repeat first | assumption | rfl | refine aG_n ?_ rfl rfl)) ?_
      refine wp_ishr (pc := 16) dX12_findValue_16 ?_
      refine wp_iconst (pc := 17) (v := 1) dX12_findValue_17 (by decide) ?_
      refine wp_iand (pc := 18) dX12_findValue_18 ?_
      refine wp_iconst (pc := 19) (v := 1) dX12_findValue_19 (by decide) ?_
      refine wp_icmp_ne (pc := 20) (tgt := 43) dX12_findValue_20 rfl (fun q => absurd ((bit_i g (by omega) h (by omega)).mpr hb) q) (fun _ => ?_)
      refine wp_aload_n (pc := 23) dX12_findValue_23 (by first | rfl | assumption | (repeat first | assumption | rfl | refine aG_n ?_ rfl rfl)) ?_
      refine wp_getR (pc := 24) dX12_findValue_24 fl_12_77 (by first | rfl | assumption | exact sh_house (by omega) | exact sh_wish (by omega) | exact sh_wor (by omega) | exact sh_bar (by omega) | exact sh_term (by omega) | exact sh_sheet (by omega) | exact sh_items (by omega) | exact sh_sums (by omega)) rfl ?_
      refine wp_iload_n (pc := 27) dX12_findValue_27 (by first | rfl | assumption | (repeat first | assumption | rfl | refine aG_n ?_ rfl rfl)) ?_
      refine wp_iload (pc := 28) dX12_findValue_28 (by first | rfl | assumption | (repeat first | assumption | rfl | refine aG_n ?_ rfl rfl)) ?_
      refine wp_iast (pc := 30) dX12_findValue_30 (by first | rfl | assumption | exact sh_house (by omega) | exact sh_wish (by omega) | exact sh_wor (by omega) | exact sh_bar (by omega) | exact sh_term (by omega) | exact sh_sheet (by omega) | exact sh_items (by omega) | exact sh_sums (by omega)) (vp_in_nI (by omega) (by decide)) ?_
      refine wp_iload_n (pc := 31) dX12_findValue_31 (by first | rfl | assumption | (repeat first | assumption | rfl | refine aG_n ?_ rfl rfl)) ?_
      refine wp_aload_n (pc := 32) dX12_findValue_32 (by first | rfl | assumption | (repeat first | assumption | rfl | refine aG_n ?_ rfl rfl)) ?_
      refine wp_iload (pc := 33) dX12_findValue_33 (by first | rfl | assumption | (repeat first | assumption | rfl | refine aG_n ?_ rfl rfl)) ?_
      refine wp_cV (pc := 35) dX12_findValue_35 lk_12_208 rfl (by decide) rfl (by first | rfl | assumption | exact sh_house (by omega) | exact sh_wish (by omega) | exact sh_wor (by omega) | exact sh_bar (by omega) | exact sh_term (by omega) | exact sh_sheet (by omega) | exact sh_items (by omega) | exact sh_sums (by omega)) rfl rfl ?_
      rw [cc]
      refine c_X12_thingsOf ?_
      dsimp only
      rw [up2_ne (show 87 ≠ 109 by decide), show μ'.1 87 = μ.1 87 from ho.row (by omega)]
      refine aK_i ?_
      refine wp_ior (pc := 38) dX12_findValue_38 ?_
      refine wp_istore_n (pc := 39) dX12_findValue_39 (by decide) ?_
      refine wp_iinc (pc := 40) dX12_findValue_40 (by decide) (by first | rfl | assumption | (repeat first | assumption | rfl | refine aG_n ?_ rfl rfl)) rfl ?_
      refine wp_iinc (pc := 43) dX12_findValue_43 (by decide) (by first | rfl | assumption | (repeat first | assumption | rfl | refine aG_n ?_ rfl rfl)) rfl ?_
      refine wp_goto (pc := 46) (tgt := 7) dX12_findValue_46 rfl ?_
      skip
      refine l_fv1 hg k f (h + 1) (by omega) _ ⟨fun x j hx => ?_, by exact ho.2⟩ (fun x h1 hb2 => ?_) _ (by first | rfl | assumption | (repeat first | assumption | rfl | refine aG_n ?_ rfl rfl)) (by first | rfl | assumption | (repeat first | assumption | rfl | refine aG_n ?_ rfl rfl)) (by rw [cn_y hb, ← nI_i1]; first | rfl | assumption | (repeat first | assumption | rfl | refine aG_n ?_ rfl rfl)) (by rw [← eT]; first | rfl | assumption | (repeat first | assumption | rfl | refine aG_n ?_ rfl rfl)) (by rw [← nI_i1]; first | rfl | assumption | (repeat first | assumption | rfl | refine aG_n ?_ rfl rfl))
      · dsimp only; rw [up2_p (by omega)]; exact ho.1 x j hx
      · dsimp only
        by_cases e : x = h
        · subst e; exact up2_at
        · have hlt : cn g x + 1 ≤ cn g h := by rw [← cn_y hb2]; exact cn_mono g _ _ (by omega)
          rw [up2_p (by omega)]; exact hm x (by omega) hb2
    · have eT : tG μ.1 g (h + 1) = tG μ.1 g h := if_neg hb
      refine wp_iload (pc := 7) dX12_findValue_7 (by first | rfl | assumption | (repeat first | assumption | rfl | refine aG_n ?_ rfl rfl)) ?_
      refine wp_iconst (pc := 9) (v := 4) dX12_findValue_9 (by decide) ?_
      refine wp_icmp_ge (pc := 10) (tgt := 49) dX12_findValue_10 rfl (fun q => absurd q (nI_ge (a := h) (b := 4) (by omega) (by omega))) (fun _ => ?_)
      refine wp_iload_n (pc := 13) dX12_findValue_13 (by first | rfl | assumption | (repeat first | assumption | rfl | refine aG_n ?_ rfl rfl)) ?_
      refine wp_iload (pc := 14) dX12_findValue_14 (by first | rfl | assumption | (repeat first | assumption | rfl | refine aG_n ?_ rfl rfl)) ?_
      refine wp_ishr (pc := 16) dX12_findValue_16 ?_
      refine wp_iconst (pc := 17) (v := 1) dX12_findValue_17 (by decide) ?_
      refine wp_iand (pc := 18) dX12_findValue_18 ?_
      refine wp_iconst (pc := 19) (v := 1) dX12_findValue_19 (by decide) ?_
      refine wp_icmp_ne (pc := 20) (tgt := 43) dX12_findValue_20 rfl (fun _ => ?_) (fun q => absurd q (fun z => hb ((bit_i g (by omega) h (by omega)).mp z)))
      refine wp_iinc (pc := 43) dX12_findValue_43 (by decide) (by first | rfl | assumption | (repeat first | assumption | rfl | refine aG_n ?_ rfl rfl)) rfl ?_
      refine wp_goto (pc := 46) (tgt := 7) dX12_findValue_46 rfl ?_
      exact l_fv1 hg k f (h + 1) (by omega) _ ho (fun x h1 hb2 => if e : x = h then absurd (e ▸ hb2) hb else hm x (by omega) hb2) _ (by first | rfl | assumption | (repeat first | assumption | rfl | refine aG_n ?_ rfl rfl)) (by first | rfl | assumption | (repeat first | assumption | rfl | refine aG_n ?_ rfl rfl)) (by rw [cn_n hb]; first | rfl | assumption | (repeat first | assumption | rfl | refine aG_n ?_ rfl rfl)) (by rw [eT]; first | rfl | assumption | (repeat first | assumption | rfl | refine aG_n ?_ rfl rfl)) (by rw [← nI_i1]; first | rfl | assumption | (repeat first | assumption | rfl | refine aG_n ?_ rfl rfl))
theorem l_fv2 (hT : T < 64) (k : ∀ L : aL, aL_get L 0 = some (.ref 86) → aL_get L 1 = some (.int (nI g)) → aL_get L 2 = some (.int (nI m)) → aL_get L 3 = some (.int (nI T)) → aL_get L 4 = some (.int (nI (m ^ cn T 6))) → WP X mX12_findValue 88 L [] μ Q) : ∀ (f t : Nat), t + f = 6 → ∀ L : aL, aL_get L 0 = some (.ref 86) → aL_get L 1 = some (.int (nI g)) → aL_get L 2 = some (.int (nI m)) → aL_get L 3 = some (.int (nI T)) → aL_get L 4 = some (.int (nI (m ^ cn T t))) → aL_get L 5 = some (.int (nI t)) → WP X mX12_findValue 55 L [] μ Q
  | 0, t, ht, L, g0, g1, g2, g3, g4, g5 => by
    obtain rfl : t = 6 := by omega
    refine wp_iload (pc := 55) dX12_findValue_55 (by first | rfl | assumption | (repeat first | assumption | rfl | refine aG_n ?_ rfl rfl)) ?_
    refine wp_bipush (pc := 57) (v := 6) dX12_findValue_57 (by decide) ?_
    refine wp_icmp_ge (pc := 59) (tgt := 88) dX12_findValue_59 rfl (fun _ => ?_) (fun q => absurd (nI_le (a := 6) (b := 6) (by omega) (by omega)) q)
    exact k _ g0 g1 g2 g3 g4
  | f + 1, t, ht, L, g0, g1, g2, g3, g4, g5 => by
    by_cases hb : T.testBit t = true
    · have e : nI (m ^ cn T t) * nI m = nI (m ^ cn T (t + 1)) := by rw [cn_y hb, Nat.pow_succ]; exact pk_mul _ _
      refine wp_iload (pc := 55) dX12_findValue_55 (by first | rfl | assumption | (repeat first | assumption | rfl | refine aG_n ?_ rfl rfl)) ?_
      refine wp_bipush (pc := 57) (v := 6) dX12_findValue_57 (by decide) ?_
      refine wp_icmp_ge (pc := 59) (tgt := 88) dX12_findValue_59 rfl (fun q => absurd q (nI_ge (a := t) (b := 6) (by omega) (by omega))) (fun _ => ?_)
      refine wp_iload (pc := 62) dX12_findValue_62 (by first | rfl | assumption | (repeat first | assumption | rfl | refine aG_n ?_ rfl rfl)) ?_
      refine wp_iload_n (pc := 64) dX12_findValue_64 (by first | rfl | assumption | (repeat first | assumption | rfl | refine aG_n ?_ rfl rfl)) ?_
      refine wp_iload (pc := 65) dX12_findValue_65 (by first | rfl | assumption | (repeat first | assumption | rfl | refine aG_n ?_ rfl rfl)) ?_
      refine wp_ishr (pc := 67) dX12_findValue_67 ?_
      refine wp_iconst (pc := 68) (v := 1) dX12_findValue_68 (by decide) ?_
      refine wp_iand (pc := 69) dX12_findValue_69 ?_
      refine wp_iconst (pc := 70) (v := 1) dX12_findValue_70 (by decide) ?_
      refine wp_icmp_ne (pc := 71) (tgt := 78) dX12_findValue_71 rfl (fun q => absurd ((bit_i T hT t (by omega)).mpr hb) q) (fun _ => ?_)
      refine wp_iload_n (pc := 74) dX12_findValue_74 (by first | rfl | assumption | (repeat first | assumption | rfl | refine aG_n ?_ rfl rfl)) ?_
      refine wp_goto (pc := 75) (tgt := 79) dX12_findValue_75 rfl ?_
      refine wp_imul (pc := 79) dX12_findValue_79 ?_
      refine wp_istore (pc := 80) dX12_findValue_80 (by decide) ?_
      refine wp_iinc (pc := 82) dX12_findValue_82 (by decide) (by first | rfl | assumption | (repeat first | assumption | rfl | refine aG_n ?_ rfl rfl)) rfl ?_
      refine wp_goto (pc := 85) (tgt := 55) dX12_findValue_85 rfl ?_
      exact l_fv2 hT k f (t + 1) (by omega) _ (by first | rfl | assumption | (repeat first | assumption | rfl | refine aG_n ?_ rfl rfl)) (by first | rfl | assumption | (repeat first | assumption | rfl | refine aG_n ?_ rfl rfl)) (by first | rfl | assumption | (repeat first | assumption | rfl | refine aG_n ?_ rfl rfl)) (by first | rfl | assumption | (repeat first | assumption | rfl | refine aG_n ?_ rfl rfl)) (by rw [← e]; first | rfl | assumption | (repeat first | assumption | rfl | refine aG_n ?_ rfl rfl)) (by rw [← nI_i1]; first | rfl | assumption | (repeat first | assumption | rfl | refine aG_n ?_ rfl rfl))
    · have e : nI (m ^ cn T t) * 1 = nI (m ^ cn T (t + 1)) := by rw [cn_n hb]; exact Int32.mul_one _
      refine wp_iload (pc := 55) dX12_findValue_55 (by first | rfl | assumption | (repeat first | assumption | rfl | refine aG_n ?_ rfl rfl)) ?_
      refine wp_bipush (pc := 57) (v := 6) dX12_findValue_57 (by decide) ?_
      refine wp_icmp_ge (pc := 59) (tgt := 88) dX12_findValue_59 rfl (fun q => absurd q (nI_ge (a := t) (b := 6) (by omega) (by omega))) (fun _ => ?_)
      refine wp_iload (pc := 62) dX12_findValue_62 (by first | rfl | assumption | (repeat first | assumption | rfl | refine aG_n ?_ rfl rfl)) ?_
      refine wp_iload_n (pc := 64) dX12_findValue_64 (by first | rfl | assumption | (repeat first | assumption | rfl | refine aG_n ?_ rfl rfl)) ?_
      refine wp_iload (pc := 65) dX12_findValue_65 (by first | rfl | assumption | (repeat first | assumption | rfl | refine aG_n ?_ rfl rfl)) ?_
      refine wp_ishr (pc := 67) dX12_findValue_67 ?_
      refine wp_iconst (pc := 68) (v := 1) dX12_findValue_68 (by decide) ?_
      refine wp_iand (pc := 69) dX12_findValue_69 ?_
      refine wp_iconst (pc := 70) (v := 1) dX12_findValue_70 (by decide) ?_
      refine wp_icmp_ne (pc := 71) (tgt := 78) dX12_findValue_71 rfl (fun _ => ?_) (fun q => absurd q (fun z => hb ((bit_i T hT t (by omega)).mp z)))
      refine wp_iconst (pc := 78) (v := 1) dX12_findValue_78 (by decide) ?_
      refine wp_imul (pc := 79) dX12_findValue_79 ?_
      refine wp_istore (pc := 80) dX12_findValue_80 (by decide) ?_
      refine wp_iinc (pc := 82) dX12_findValue_82 (by decide) (by first | rfl | assumption | (repeat first | assumption | rfl | refine aG_n ?_ rfl rfl)) rfl ?_
      refine wp_goto (pc := 85) (tgt := 55) dX12_findValue_85 rfl ?_
      exact l_fv2 hT k f (t + 1) (by omega) _ (by first | rfl | assumption | (repeat first | assumption | rfl | refine aG_n ?_ rfl rfl)) (by first | rfl | assumption | (repeat first | assumption | rfl | refine aG_n ?_ rfl rfl)) (by first | rfl | assumption | (repeat first | assumption | rfl | refine aG_n ?_ rfl rfl)) (by first | rfl | assumption | (repeat first | assumption | rfl | refine aG_n ?_ rfl rfl)) (by rw [← e]; first | rfl | assumption | (repeat first | assumption | rfl | refine aG_n ?_ rfl rfl)) (by rw [← nI_i1]; first | rfl | assumption | (repeat first | assumption | rfl | refine aG_n ?_ rfl rfl))
theorem l_fv3 (hm : m ≤ 4) {lv : Int32} (k : ∀ μ' : Mm, (∀ x, x ≠ 110 → μ'.1 x = μ.1 x) → μ'.2 = μ.2 → (∀ j, j < m → μ'.1 110 j = 0) → ∀ L : aL, fvL L g m T all c → aL_get L 6 = some (.int lv) → WP X mX12_findValue 143 L [] μ' Q) : ∀ (f j : Nat), j + f = m → ∀ μ' : Mm, (∀ x, x ≠ 110 → μ'.1 x = μ.1 x) → μ'.2 = μ.2 → (∀ x, x < j → μ'.1 110 x = 0) → ∀ L : aL, fvL L g m T all c → aL_get L 6 = some (.int lv) → aL_get L 7 = some (.int (nI j)) → WP X mX12_findValue 123 L [] μ' Q
  | 0, j, hj, μ', ho, hr, hs, L, gl, g6, g7 => by
    obtain rfl : j = m := by omega
    obtain ⟨g0, g1, g2, g3, g4, g5⟩ := id gl
    refine wp_iload (pc := 123) dX12_findValue_123 (by first | rfl | assumption | (repeat first | assumption | rfl | refine aG_n ?_ rfl rfl)) ?_
    refine wp_iload_n (pc := 125) dX12_findValue_125 (by first | rfl | assumption | (repeat first | assumption | rfl | refine aG_n ?_ rfl rfl)) ?_
    refine wp_icmp_ge (pc := 126) (tgt := 143) dX12_findValue_126 rfl (fun _ => ?_) (fun q => absurd (nI_le (by omega) (by omega)) q)
    exact k _ ho hr hs _ gl g6
  | f + 1, j, hj, μ', ho, hr, hs, L, gl, g6, g7 => by
    obtain ⟨g0, g1, g2, g3, g4, g5⟩ := id gl
    have cj : (nI j).toNatClampNeg = j := nI_clamp (by omega)
    refine wp_iload (pc := 123) dX12_findValue_123 (by first | rfl | assumption | (repeat first | assumption | rfl | refine aG_n ?_ rfl rfl)) ?_
    refine wp_iload_n (pc := 125) dX12_findValue_125 (by first | rfl | assumption | (repeat first | assumption | rfl | refine aG_n ?_ rfl rfl)) ?_
    refine wp_icmp_ge (pc := 126) (tgt := 143) dX12_findValue_126 rfl (fun q => absurd q (nI_ge (by omega) (by omega))) (fun _ => ?_)
    refine wp_aload_n (pc := 129) dX12_findValue_129 (by first | rfl | assumption | (repeat first | assumption | rfl | refine aG_n ?_ rfl rfl)) ?_
    refine wp_getR (pc := 130) dX12_findValue_130 fl_12_80 (by first | rfl | assumption | exact sh_house (by omega) | exact sh_wish (by omega) | exact sh_wor (by omega) | exact sh_bar (by omega) | exact sh_term (by omega) | exact sh_sheet (by omega) | exact sh_items (by omega) | exact sh_sums (by omega)) rfl ?_
    refine wp_iload (pc := 133) dX12_findValue_133 (by first | rfl | assumption | (repeat first | assumption | rfl | refine aG_n ?_ rfl rfl)) ?_
    refine wp_iconst (pc := 135) (v := 0) dX12_findValue_135 (by decide) ?_
    refine wp_iast (pc := 136) dX12_findValue_136 (by first | rfl | assumption | exact sh_house (by omega) | exact sh_wish (by omega) | exact sh_wor (by omega) | exact sh_bar (by omega) | exact sh_term (by omega) | exact sh_sheet (by omega) | exact sh_items (by omega) | exact sh_sums (by omega)) (vp_in_nI (by omega) (by decide)) ?_
    refine wp_iinc (pc := 137) dX12_findValue_137 (by decide) (by first | rfl | assumption | (repeat first | assumption | rfl | refine aG_n ?_ rfl rfl)) rfl ?_
    refine wp_goto (pc := 140) (tgt := 123) dX12_findValue_140 rfl ?_
    skip
    rw [cj]
    refine l_fv3 hm k f (j + 1) (by omega) _ (fun x hx => ?_) (by exact hr) (fun x hx => ?_) _ ⟨by first | rfl | assumption | (repeat first | assumption | rfl | refine aG_n ?_ rfl rfl), by first | rfl | assumption | (repeat first | assumption | rfl | refine aG_n ?_ rfl rfl), by first | rfl | assumption | (repeat first | assumption | rfl | refine aG_n ?_ rfl rfl), by first | rfl | assumption | (repeat first | assumption | rfl | refine aG_n ?_ rfl rfl), by first | rfl | assumption | (repeat first | assumption | rfl | refine aG_n ?_ rfl rfl), by first | rfl | assumption | (repeat first | assumption | rfl | refine aG_n ?_ rfl rfl)⟩ (by first | rfl | assumption | (repeat first | assumption | rfl | refine aG_n ?_ rfl rfl)) (by rw [← nI_i1]; first | rfl | assumption | (repeat first | assumption | rfl | refine aG_n ?_ rfl rfl))
    · dsimp only; rw [up2_ne hx]; exact ho x hx
    · dsimp only
      by_cases e : x = j
      · subst e; exact up2_at
      · rw [up2_p (by omega)]; exact hs x (by omega)
theorem l_fv4 (hm0 : 0 < m) (hm : m ≤ 4) (hT : T < 64) (hc : c < 2 ^ 20) (k : ∀ μ' : Mm, (∀ x, x ≠ 110 → μ'.1 x = μ.1 x) → μ'.2 = μ.2 → (∀ j, j < m → μ'.1 110 j = nI (sb T (dgt T m c) j 6)) → ∀ L : aL, fvL L g m T all c → WP X mX12_findValue 191 L [] μ' Q) : ∀ (f t : Nat), t + f = 6 → ∀ μ' : Mm, (∀ x, x ≠ 110 → μ'.1 x = μ.1 x) → μ'.2 = μ.2 → (∀ j, j < m → μ'.1 110 j = nI (sb T (dgt T m c) j t)) → ∀ L : aL, fvL L g m T all c → aL_get L 6 = some (.int (nI (c / m ^ cn T t))) → aL_get L 7 = some (.int (nI t)) → WP X mX12_findValue 146 L [] μ' Q
  | 0, t, ht, μ', ho, hr, hs, L, gl, g6, g7 => by
    obtain rfl : t = 6 := by omega
    obtain ⟨g0, g1, g2, g3, g4, g5⟩ := id gl
    refine wp_iload (pc := 146) dX12_findValue_146 (by first | rfl | assumption | (repeat first | assumption | rfl | refine aG_n ?_ rfl rfl)) ?_
    refine wp_bipush (pc := 148) (v := 6) dX12_findValue_148 (by decide) ?_
    refine wp_icmp_ge (pc := 150) (tgt := 191) dX12_findValue_150 rfl (fun _ => ?_) (fun q => absurd (nI_le (a := 6) (b := 6) (by omega) (by omega)) q)
    exact k _ ho hr hs _ gl
  | f + 1, t, ht, μ', ho, hr, hs, L, gl, g6, g7 => by
    obtain ⟨g0, g1, g2, g3, g4, g5⟩ := id gl
    have hcl : c / m ^ cn T t ≤ c := Nat.div_le_self _ _
    by_cases hb : T.testBit t = true
    · have e1 : nI (c / m ^ cn T t) - nI (c / m ^ cn T t) / nI m * nI m = nI (dgt T m c t) := pk_rem (by omega) hm0 (by omega)
      have e2 : nI (c / m ^ cn T t) / nI m = nI (c / m ^ cn T (t + 1)) := by
        rw [cn_y hb, Nat.pow_succ, ← Nat.div_div_eq_div_mul]; exact pk_div (by omega) hm0 (by omega)
      have hd : dgt T m c t < m := Nat.mod_lt _ hm0
      have cd : (nI (dgt T m c t)).toNatClampNeg = dgt T m c t := nI_clamp (by omega)
      have hsb := sb_lt T (dgt T m c) (dgt T m c t) t
      have h64 : 2 ^ t ≤ 2 ^ 6 := Nat.pow_le_pow_right (by decide) (by omega)
      have eo : nI (sb T (dgt T m c) (dgt T m c t) t) ||| ((1 : Int32) <<< (nI t &&& 31)) = nI (sb T (dgt T m c) (dgt T m c t) (t + 1)) := by
        rw [or_pow t (by omega) _ (by omega) hsb, show sb T (dgt T m c) (dgt T m c t) (t + 1) = sb T (dgt T m c) (dgt T m c t) t + 2 ^ t from by show _ + _ = _; rw [if_pos ⟨hb, rfl⟩]]
      refine wp_iload (pc := 146) dX12_findValue_146 (by first | rfl | assumption | (repeat first | assumption | rfl | refine aG_n ?_ rfl rfl)) ?_
      refine wp_bipush (pc := 148) (v := 6) dX12_findValue_148 (by decide) ?_
      refine wp_icmp_ge (pc := 150) (tgt := 191) dX12_findValue_150 rfl (fun q => absurd q (nI_ge (a := t) (b := 6) (by omega) (by omega))) (fun _ => ?_)
      refine wp_iload_n (pc := 153) dX12_findValue_153 (by first | rfl | assumption | (repeat first | assumption | rfl | refine aG_n ?_ rfl rfl)) ?_
      refine wp_iload (pc := 154) dX12_findValue_154 (by first | rfl | assumption | (repeat first | assumption | rfl | refine aG_n ?_ rfl rfl)) ?_
      refine wp_ishr (pc := 156) dX12_findValue_156 ?_
      refine wp_iconst (pc := 157) (v := 1) dX12_findValue_157 (by decide) ?_
      refine wp_iand (pc := 158) dX12_findValue_158 ?_
      refine wp_iconst (pc := 159) (v := 1) dX12_findValue_159 (by decide) ?_
      refine wp_icmp_ne (pc := 160) (tgt := 185) dX12_findValue_160 rfl (fun q => absurd ((bit_i T hT t (by omega)).mpr hb) q) (fun _ => ?_)
      refine wp_aload_n (pc := 163) dX12_findValue_163 (by first | rfl | assumption | (repeat first | assumption | rfl | refine aG_n ?_ rfl rfl)) ?_
      refine wp_getR (pc := 164) dX12_findValue_164 fl_12_80 (by first | rfl | assumption | exact sh_house (by omega) | exact sh_wish (by omega) | exact sh_wor (by omega) | exact sh_bar (by omega) | exact sh_term (by omega) | exact sh_sheet (by omega) | exact sh_items (by omega) | exact sh_sums (by omega)) rfl ?_
      refine wp_iload (pc := 167) dX12_findValue_167 (by first | rfl | assumption | (repeat first | assumption | rfl | refine aG_n ?_ rfl rfl)) ?_
      refine wp_iload_n (pc := 169) dX12_findValue_169 (by first | rfl | assumption | (repeat first | assumption | rfl | refine aG_n ?_ rfl rfl)) ?_
      refine wp_irem (pc := 170) dX12_findValue_170 (nI_ne0 hm0 (by omega)) ?_
      refine wp_dup2 (pc := 171) dX12_findValue_171 ?_
      refine wp_iald (pc := 172) dX12_findValue_172 (by first | rfl | assumption | exact sh_house (by omega) | exact sh_wish (by omega) | exact sh_wor (by omega) | exact sh_bar (by omega) | exact sh_term (by omega) | exact sh_sheet (by omega) | exact sh_items (by omega) | exact sh_sums (by omega)) (by rw [e1]; exact vp_in_nI (by omega) (by decide)) ?_
      refine wp_iconst (pc := 173) (v := 1) dX12_findValue_173 (by decide) ?_
      refine wp_iload (pc := 174) dX12_findValue_174 (by first | rfl | assumption | (repeat first | assumption | rfl | refine aG_n ?_ rfl rfl)) ?_
      refine wp_ishl (pc := 176) dX12_findValue_176 ?_
      refine wp_ior (pc := 177) dX12_findValue_177 ?_
      refine wp_iast (pc := 178) dX12_findValue_178 (by first | rfl | assumption | exact sh_house (by omega) | exact sh_wish (by omega) | exact sh_wor (by omega) | exact sh_bar (by omega) | exact sh_term (by omega) | exact sh_sheet (by omega) | exact sh_items (by omega) | exact sh_sums (by omega)) (by rw [e1]; exact vp_in_nI (by omega) (by decide)) ?_
      refine wp_iload (pc := 179) dX12_findValue_179 (by first | rfl | assumption | (repeat first | assumption | rfl | refine aG_n ?_ rfl rfl)) ?_
      refine wp_iload_n (pc := 181) dX12_findValue_181 (by first | rfl | assumption | (repeat first | assumption | rfl | refine aG_n ?_ rfl rfl)) ?_
      refine wp_idiv (pc := 182) dX12_findValue_182 (nI_ne0 hm0 (by omega)) ?_
      refine wp_istore (pc := 183) dX12_findValue_183 (by decide) ?_
      refine wp_iinc (pc := 185) dX12_findValue_185 (by decide) (by first | rfl | assumption | (repeat first | assumption | rfl | refine aG_n ?_ rfl rfl)) rfl ?_
      refine wp_goto (pc := 188) (tgt := 146) dX12_findValue_188 rfl ?_
      skip
      rw [e1, cd, hs _ hd, eo]
      refine l_fv4 hm0 hm hT hc k f (t + 1) (by omega) _ (fun x hx => ?_) (by exact hr) (fun j hj => ?_) _ ⟨by first | rfl | assumption | (repeat first | assumption | rfl | refine aG_n ?_ rfl rfl), by first | rfl | assumption | (repeat first | assumption | rfl | refine aG_n ?_ rfl rfl), by first | rfl | assumption | (repeat first | assumption | rfl | refine aG_n ?_ rfl rfl), by first | rfl | assumption | (repeat first | assumption | rfl | refine aG_n ?_ rfl rfl), by first | rfl | assumption | (repeat first | assumption | rfl | refine aG_n ?_ rfl rfl), by first | rfl | assumption | (repeat first | assumption | rfl | refine aG_n ?_ rfl rfl)⟩ (by rw [← e2]; first | rfl | assumption | (repeat first | assumption | rfl | refine aG_n ?_ rfl rfl)) (by rw [← nI_i1]; first | rfl | assumption | (repeat first | assumption | rfl | refine aG_n ?_ rfl rfl))
      · dsimp only; rw [up2_ne hx]; exact ho x hx
      · dsimp only
        by_cases e : j = dgt T m c t
        · subst e; exact up2_at
        · rw [up2_p (by omega), hs j hj]
          show _ = nI (sb T (dgt T m c) j t + _)
          rw [if_neg (fun z => e z.2.symm)]; rfl
    · refine wp_iload (pc := 146) dX12_findValue_146 (by first | rfl | assumption | (repeat first | assumption | rfl | refine aG_n ?_ rfl rfl)) ?_
      refine wp_bipush (pc := 148) (v := 6) dX12_findValue_148 (by decide) ?_
      refine wp_icmp_ge (pc := 150) (tgt := 191) dX12_findValue_150 rfl (fun q => absurd q (nI_ge (a := t) (b := 6) (by omega) (by omega))) (fun _ => ?_)
      refine wp_iload_n (pc := 153) dX12_findValue_153 (by first | rfl | assumption | (repeat first | assumption | rfl | refine aG_n ?_ rfl rfl)) ?_
      refine wp_iload (pc := 154) dX12_findValue_154 (by first | rfl | assumption | (repeat first | assumption | rfl | refine aG_n ?_ rfl rfl)) ?_
      refine wp_ishr (pc := 156) dX12_findValue_156 ?_
      refine wp_iconst (pc := 157) (v := 1) dX12_findValue_157 (by decide) ?_
      refine wp_iand (pc := 158) dX12_findValue_158 ?_
      refine wp_iconst (pc := 159) (v := 1) dX12_findValue_159 (by decide) ?_
      refine wp_icmp_ne (pc := 160) (tgt := 185) dX12_findValue_160 rfl (fun _ => ?_) (fun q => absurd q (fun z => hb ((bit_i T hT t (by omega)).mp z)))
      refine wp_iinc (pc := 185) dX12_findValue_185 (by decide) (by first | rfl | assumption | (repeat first | assumption | rfl | refine aG_n ?_ rfl rfl)) rfl ?_
      refine wp_goto (pc := 188) (tgt := 146) dX12_findValue_188 rfl ?_
      skip
      refine l_fv4 hm0 hm hT hc k f (t + 1) (by omega) μ' ho hr (fun j hj => ?_) _ ⟨by first | rfl | assumption | (repeat first | assumption | rfl | refine aG_n ?_ rfl rfl), by first | rfl | assumption | (repeat first | assumption | rfl | refine aG_n ?_ rfl rfl), by first | rfl | assumption | (repeat first | assumption | rfl | refine aG_n ?_ rfl rfl), by first | rfl | assumption | (repeat first | assumption | rfl | refine aG_n ?_ rfl rfl), by first | rfl | assumption | (repeat first | assumption | rfl | refine aG_n ?_ rfl rfl), by first | rfl | assumption | (repeat first | assumption | rfl | refine aG_n ?_ rfl rfl)⟩ (by rw [cn_n hb]; first | rfl | assumption | (repeat first | assumption | rfl | refine aG_n ?_ rfl rfl)) (by rw [← nI_i1]; first | rfl | assumption | (repeat first | assumption | rfl | refine aG_n ?_ rfl rfl))
      rw [hs j hj]
      show _ = nI (sb T (dgt T m c) j t + _)
      rw [if_neg (fun z => hb z.1)]; rfl
/-- sum and bars of one way -/
theorem l_fv5 {B : MM} {S : Nat → Nat} (hg : g < 16) (hmm : m = cn g 4) (hS : ∀ j, S j < 64) (hW : I_wish μ.1) (hB : ∀ i, i < 4 → μ.1 (57 + 4 * i) = B (57 + 4 * i) ∧ μ.1 (58 + 4 * i) = B (58 + 4 * i)) (hM : mbP μ.1 g) (hp : ∀ j, j < m → μ.1 110 j = nI (S j)) (k : ∀ v, ((v = 1 ∧ fH B S g 4) ∨ (v = 0 ∧ ¬ fH B S g 4)) → ∀ L : aL, fvL L g m T all c → aL_get L 7 = some (.int (sH B S g 4)) → aL_get L 8 = some (.int v) → WP X mX12_findValue 268 L [] μ Q) : ∀ (f h : Nat), h + f = 4 → ∀ v, ((v = 1 ∧ fH B S g h) ∨ (v = 0 ∧ ¬ fH B S g h)) → ∀ L : aL, fvL L g m T all c → aL_get L 7 = some (.int (sH B S g h)) → aL_get L 8 = some (.int v) → aL_get L 9 = some (.int (nI (cn g h))) → WP X mX12_findValue 200 L [] μ Q
  | 0, h, hh, v, hv, L, gl, g7, g8, g9 => by
    obtain rfl : h = 4 := by omega
    obtain ⟨g0, g1, g2, g3, g4, g5⟩ := id gl
    have h4 := cn_le g 4
    refine wp_iload (pc := 200) dX12_findValue_200 (by first | rfl | assumption | (repeat first | assumption | rfl | refine aG_n ?_ rfl rfl)) ?_
    refine wp_iload_n (pc := 202) dX12_findValue_202 (by first | rfl | assumption | (repeat first | assumption | rfl | refine aG_n ?_ rfl rfl)) ?_
    refine wp_icmp_ge (pc := 203) (tgt := 268) dX12_findValue_203 rfl (fun _ => ?_) (fun q => absurd (by rw [hmm]; exact nI_le (by omega) (by omega)) q)
    exact k v hv _ gl g7 g8
  | f + 1, h, hh, v, hv, L, gl, g7, g8, g9 => by
    obtain ⟨g0, g1, g2, g3, g4, g5⟩ := id gl
    have h4 := cn_le g 4
    by_cases hb : g.testBit h = true
    · have hlt := (hx_2 g hg h (by omega) hb).2
      have cc : (nI (cn g h)).toNatClampNeg = cn g h := nI_clamp (by omega)
      have em := hM h (by omega) hb
      have epd := hp (cn g h) (by omega)
      have esum : sH B S g h + B (57 + 4 * h) (S (cn g h)) = sH B S g (h + 1) := by show _ = (if _ then _ else _); rw [if_pos hb]
      have efr : fH B S g (h + 1) ↔ fH B S g h ∧ B (58 + 4 * h) (S (cn g h)) = 0 := ⟨fun z => ⟨z.1, z.2 hb⟩, fun z => ⟨z.1, fun _ => z.2⟩⟩
      have hB57 := (hB h (by omega)).1
      have hB58 := (hB h (by omega)).2
      rcases hv with ⟨rfl, hv⟩ | ⟨rfl, hv⟩
      · by_cases cb : B (58 + 4 * h) (S (cn g h)) = 0
        · refine wp_iload (pc := 200) dX12_findValue_200 (by first | rfl | assumption | (repeat first | assumption | rfl | refine aG_n ?_ rfl rfl)) ?_
          refine wp_iload_n (pc := 202) dX12_findValue_202 (by first | rfl | assumption | (repeat first | assumption | rfl | refine aG_n ?_ rfl rfl)) ?_
          refine wp_icmp_ge (pc := 203) (tgt := 268) dX12_findValue_203 rfl (fun q => absurd q (by rw [hmm]; exact nI_ge (by omega) (by omega))) (fun _ => ?_)
          refine wp_iload (pc := 206) dX12_findValue_206 (by first | rfl | assumption | (repeat first | assumption | rfl | refine aG_n ?_ rfl rfl)) ?_
          refine wp_aload_n (pc := 208) dX12_findValue_208 (by first | rfl | assumption | (repeat first | assumption | rfl | refine aG_n ?_ rfl rfl)) ?_
          refine wp_aload_n (pc := 209) dX12_findValue_209 (by first | rfl | assumption | (repeat first | assumption | rfl | refine aG_n ?_ rfl rfl)) ?_
          refine wp_getR (pc := 210) dX12_findValue_210 fl_12_77 (by first | rfl | assumption | exact sh_house (by omega) | exact sh_wish (by omega) | exact sh_wor (by omega) | exact sh_bar (by omega) | exact sh_term (by omega) | exact sh_sheet (by omega) | exact sh_items (by omega) | exact sh_sums (by omega)) rfl ?_
          refine wp_iload (pc := 213) dX12_findValue_213 (by first | rfl | assumption | (repeat first | assumption | rfl | refine aG_n ?_ rfl rfl)) ?_
          refine wp_iald (pc := 215) dX12_findValue_215 (by first | rfl | assumption | exact sh_house (by omega) | exact sh_wish (by omega) | exact sh_wor (by omega) | exact sh_bar (by omega) | exact sh_term (by omega) | exact sh_sheet (by omega) | exact sh_items (by omega) | exact sh_sums (by omega)) (vp_in_nI (by omega) (by decide)) ?_
          refine wp_aload_n (pc := 216) dX12_findValue_216 (by first | rfl | assumption | (repeat first | assumption | rfl | refine aG_n ?_ rfl rfl)) ?_
          refine wp_getR (pc := 217) dX12_findValue_217 fl_12_80 (by first | rfl | assumption | exact sh_house (by omega) | exact sh_wish (by omega) | exact sh_wor (by omega) | exact sh_bar (by omega) | exact sh_term (by omega) | exact sh_sheet (by omega) | exact sh_items (by omega) | exact sh_sums (by omega)) rfl ?_
          refine wp_iload (pc := 220) dX12_findValue_220 (by first | rfl | assumption | (repeat first | assumption | rfl | refine aG_n ?_ rfl rfl)) ?_
          refine wp_iald (pc := 222) dX12_findValue_222 (by first | rfl | assumption | exact sh_house (by omega) | exact sh_wish (by omega) | exact sh_wor (by omega) | exact sh_bar (by omega) | exact sh_term (by omega) | exact sh_sheet (by omega) | exact sh_items (by omega) | exact sh_sums (by omega)) (vp_in_nI (by omega) (by decide)) ?_
          refine wp_cV (pc := 223) dX12_findValue_223 lk_12_200 rfl (by decide) rfl (by first | rfl | assumption | exact sh_house (by omega) | exact sh_wish (by omega) | exact sh_wor (by omega) | exact sh_bar (by omega) | exact sh_term (by omega) | exact sh_sheet (by omega) | exact sh_items (by omega) | exact sh_sums (by omega)) rfl rfl ?_
          rw [cc, em, epd]
          refine m_worth hW (by omega) (hS _) rfl ?_
          rw [hB57]
          refine aK_i ?_
          refine wp_iadd (pc := 226) dX12_findValue_226 ?_
          refine wp_istore (pc := 227) dX12_findValue_227 (by decide) ?_
          refine wp_iload (pc := 229) dX12_findValue_229 (by first | rfl | assumption | (repeat first | assumption | rfl | refine aG_n ?_ rfl rfl)) ?_
          refine wp_if_eq (pc := 231) (tgt := 259) dX12_findValue_231 rfl (fun q => absurd q (by decide)) (fun _ => ?_)
          refine wp_aload_n (pc := 234) dX12_findValue_234 (by first | rfl | assumption | (repeat first | assumption | rfl | refine aG_n ?_ rfl rfl)) ?_
          refine wp_aload_n (pc := 235) dX12_findValue_235 (by first | rfl | assumption | (repeat first | assumption | rfl | refine aG_n ?_ rfl rfl)) ?_
          refine wp_getR (pc := 236) dX12_findValue_236 fl_12_77 (by first | rfl | assumption | exact sh_house (by omega) | exact sh_wish (by omega) | exact sh_wor (by omega) | exact sh_bar (by omega) | exact sh_term (by omega) | exact sh_sheet (by omega) | exact sh_items (by omega) | exact sh_sums (by omega)) rfl ?_
          refine wp_iload (pc := 239) dX12_findValue_239 (by first | rfl | assumption | (repeat first | assumption | rfl | refine aG_n ?_ rfl rfl)) ?_
          refine wp_iald (pc := 241) dX12_findValue_241 (by first | rfl | assumption | exact sh_house (by omega) | exact sh_wish (by omega) | exact sh_wor (by omega) | exact sh_bar (by omega) | exact sh_term (by omega) | exact sh_sheet (by omega) | exact sh_items (by omega) | exact sh_sums (by omega)) (vp_in_nI (by omega) (by decide)) ?_
          refine wp_aload_n (pc := 242) dX12_findValue_242 (by first | rfl | assumption | (repeat first | assumption | rfl | refine aG_n ?_ rfl rfl)) ?_
          refine wp_getR (pc := 243) dX12_findValue_243 fl_12_80 (by first | rfl | assumption | exact sh_house (by omega) | exact sh_wish (by omega) | exact sh_wor (by omega) | exact sh_bar (by omega) | exact sh_term (by omega) | exact sh_sheet (by omega) | exact sh_items (by omega) | exact sh_sums (by omega)) rfl ?_
          refine wp_iload (pc := 246) dX12_findValue_246 (by first | rfl | assumption | (repeat first | assumption | rfl | refine aG_n ?_ rfl rfl)) ?_
          refine wp_iald (pc := 248) dX12_findValue_248 (by first | rfl | assumption | exact sh_house (by omega) | exact sh_wish (by omega) | exact sh_wor (by omega) | exact sh_bar (by omega) | exact sh_term (by omega) | exact sh_sheet (by omega) | exact sh_items (by omega) | exact sh_sums (by omega)) (vp_in_nI (by omega) (by decide)) ?_
          refine wp_cV (pc := 249) dX12_findValue_249 lk_12_204 rfl (by decide) rfl (by first | rfl | assumption | exact sh_house (by omega) | exact sh_wish (by omega) | exact sh_wor (by omega) | exact sh_bar (by omega) | exact sh_term (by omega) | exact sh_sheet (by omega) | exact sh_items (by omega) | exact sh_sums (by omega)) rfl rfl ?_
          (try rw [cc])
          (try rw [em, epd])
          refine m_barred hW (by omega) (hS _) rfl (fun z => absurd (by rw [hB58]; exact cb) z) (fun _ => aK_i ?_)
          refine wp_if_ne (pc := 252) (tgt := 259) dX12_findValue_252 rfl (fun q => absurd rfl q) (fun _ => ?_)
          refine wp_iconst (pc := 255) (v := 1) dX12_findValue_255 (by decide) ?_
          refine wp_goto (pc := 256) (tgt := 260) dX12_findValue_256 rfl ?_
          refine wp_istore (pc := 260) dX12_findValue_260 (by decide) ?_
          refine wp_iinc (pc := 262) dX12_findValue_262 (by decide) (by first | rfl | assumption | (repeat first | assumption | rfl | refine aG_n ?_ rfl rfl)) rfl ?_
          refine wp_goto (pc := 265) (tgt := 200) dX12_findValue_265 rfl ?_
          exact l_fv5 hg hmm hS hW hB hM hp k f (h + 1) (by omega) 1 (Or.inl ⟨rfl, efr.mpr ⟨hv, cb⟩⟩) _ ⟨by first | rfl | assumption | (repeat first | assumption | rfl | refine aG_n ?_ rfl rfl), by first | rfl | assumption | (repeat first | assumption | rfl | refine aG_n ?_ rfl rfl), by first | rfl | assumption | (repeat first | assumption | rfl | refine aG_n ?_ rfl rfl), by first | rfl | assumption | (repeat first | assumption | rfl | refine aG_n ?_ rfl rfl), by first | rfl | assumption | (repeat first | assumption | rfl | refine aG_n ?_ rfl rfl), by first | rfl | assumption | (repeat first | assumption | rfl | refine aG_n ?_ rfl rfl)⟩ (by rw [← esum]; first | rfl | assumption | (repeat first | assumption | rfl | refine aG_n ?_ rfl rfl)) (by first | rfl | assumption | (repeat first | assumption | rfl | refine aG_n ?_ rfl rfl)) (by rw [cn_y hb, ← nI_i1]; first | rfl | assumption | (repeat first | assumption | rfl | refine aG_n ?_ rfl rfl))
        · refine wp_iload (pc := 200) dX12_findValue_200 (by first | rfl | assumption | (repeat first | assumption | rfl | refine aG_n ?_ rfl rfl)) ?_
          refine wp_iload_n (pc := 202) dX12_findValue_202 (by first | rfl | assumption | (repeat first | assumption | rfl | refine aG_n ?_ rfl rfl)) ?_
          refine wp_icmp_ge (pc := 203) (tgt := 268) dX12_findValue_203 rfl (fun q => absurd q (by rw [hmm]; exact nI_ge (by omega) (by omega))) (fun _ => ?_)
          refine wp_iload (pc := 206) dX12_findValue_206 (by first | rfl | assumption | (repeat first | assumption | rfl | refine aG_n ?_ rfl rfl)) ?_
          refine wp_aload_n (pc := 208) dX12_findValue_208 (by first | rfl | assumption | (repeat first | assumption | rfl | refine aG_n ?_ rfl rfl)) ?_
          refine wp_aload_n (pc := 209) dX12_findValue_209 (by first | rfl | assumption | (repeat first | assumption | rfl | refine aG_n ?_ rfl rfl)) ?_
          refine wp_getR (pc := 210) dX12_findValue_210 fl_12_77 (by first | rfl | assumption | exact sh_house (by omega) | exact sh_wish (by omega) | exact sh_wor (by omega) | exact sh_bar (by omega) | exact sh_term (by omega) | exact sh_sheet (by omega) | exact sh_items (by omega) | exact sh_sums (by omega)) rfl ?_
          refine wp_iload (pc := 213) dX12_findValue_213 (by first | rfl | assumption | (repeat first | assumption | rfl | refine aG_n ?_ rfl rfl)) ?_
          refine wp_iald (pc := 215) dX12_findValue_215 (by first | rfl | assumption | exact sh_house (by omega) | exact sh_wish (by omega) | exact sh_wor (by omega) | exact sh_bar (by omega) | exact sh_term (by omega) | exact sh_sheet (by omega) | exact sh_items (by omega) | exact sh_sums (by omega)) (vp_in_nI (by omega) (by decide)) ?_
          refine wp_aload_n (pc := 216) dX12_findValue_216 (by first | rfl | assumption | (repeat first | assumption | rfl | refine aG_n ?_ rfl rfl)) ?_
          refine wp_getR (pc := 217) dX12_findValue_217 fl_12_80 (by first | rfl | assumption | exact sh_house (by omega) | exact sh_wish (by omega) | exact sh_wor (by omega) | exact sh_bar (by omega) | exact sh_term (by omega) | exact sh_sheet (by omega) | exact sh_items (by omega) | exact sh_sums (by omega)) rfl ?_
          refine wp_iload (pc := 220) dX12_findValue_220 (by first | rfl | assumption | (repeat first | assumption | rfl | refine aG_n ?_ rfl rfl)) ?_
          refine wp_iald (pc := 222) dX12_findValue_222 (by first | rfl | assumption | exact sh_house (by omega) | exact sh_wish (by omega) | exact sh_wor (by omega) | exact sh_bar (by omega) | exact sh_term (by omega) | exact sh_sheet (by omega) | exact sh_items (by omega) | exact sh_sums (by omega)) (vp_in_nI (by omega) (by decide)) ?_
          refine wp_cV (pc := 223) dX12_findValue_223 lk_12_200 rfl (by decide) rfl (by first | rfl | assumption | exact sh_house (by omega) | exact sh_wish (by omega) | exact sh_wor (by omega) | exact sh_bar (by omega) | exact sh_term (by omega) | exact sh_sheet (by omega) | exact sh_items (by omega) | exact sh_sums (by omega)) rfl rfl ?_
          rw [cc, em, epd]
          refine m_worth hW (by omega) (hS _) rfl ?_
          rw [hB57]
          refine aK_i ?_
          refine wp_iadd (pc := 226) dX12_findValue_226 ?_
          refine wp_istore (pc := 227) dX12_findValue_227 (by decide) ?_
          refine wp_iload (pc := 229) dX12_findValue_229 (by first | rfl | assumption | (repeat first | assumption | rfl | refine aG_n ?_ rfl rfl)) ?_
          refine wp_if_eq (pc := 231) (tgt := 259) dX12_findValue_231 rfl (fun q => absurd q (by decide)) (fun _ => ?_)
          refine wp_aload_n (pc := 234) dX12_findValue_234 (by first | rfl | assumption | (repeat first | assumption | rfl | refine aG_n ?_ rfl rfl)) ?_
          refine wp_aload_n (pc := 235) dX12_findValue_235 (by first | rfl | assumption | (repeat first | assumption | rfl | refine aG_n ?_ rfl rfl)) ?_
          refine wp_getR (pc := 236) dX12_findValue_236 fl_12_77 (by first | rfl | assumption | exact sh_house (by omega) | exact sh_wish (by omega) | exact sh_wor (by omega) | exact sh_bar (by omega) | exact sh_term (by omega) | exact sh_sheet (by omega) | exact sh_items (by omega) | exact sh_sums (by omega)) rfl ?_
          refine wp_iload (pc := 239) dX12_findValue_239 (by first | rfl | assumption | (repeat first | assumption | rfl | refine aG_n ?_ rfl rfl)) ?_
          refine wp_iald (pc := 241) dX12_findValue_241 (by first | rfl | assumption | exact sh_house (by omega) | exact sh_wish (by omega) | exact sh_wor (by omega) | exact sh_bar (by omega) | exact sh_term (by omega) | exact sh_sheet (by omega) | exact sh_items (by omega) | exact sh_sums (by omega)) (vp_in_nI (by omega) (by decide)) ?_
          refine wp_aload_n (pc := 242) dX12_findValue_242 (by first | rfl | assumption | (repeat first | assumption | rfl | refine aG_n ?_ rfl rfl)) ?_
          refine wp_getR (pc := 243) dX12_findValue_243 fl_12_80 (by first | rfl | assumption | exact sh_house (by omega) | exact sh_wish (by omega) | exact sh_wor (by omega) | exact sh_bar (by omega) | exact sh_term (by omega) | exact sh_sheet (by omega) | exact sh_items (by omega) | exact sh_sums (by omega)) rfl ?_
          refine wp_iload (pc := 246) dX12_findValue_246 (by first | rfl | assumption | (repeat first | assumption | rfl | refine aG_n ?_ rfl rfl)) ?_
          refine wp_iald (pc := 248) dX12_findValue_248 (by first | rfl | assumption | exact sh_house (by omega) | exact sh_wish (by omega) | exact sh_wor (by omega) | exact sh_bar (by omega) | exact sh_term (by omega) | exact sh_sheet (by omega) | exact sh_items (by omega) | exact sh_sums (by omega)) (vp_in_nI (by omega) (by decide)) ?_
          refine wp_cV (pc := 249) dX12_findValue_249 lk_12_204 rfl (by decide) rfl (by first | rfl | assumption | exact sh_house (by omega) | exact sh_wish (by omega) | exact sh_wor (by omega) | exact sh_bar (by omega) | exact sh_term (by omega) | exact sh_sheet (by omega) | exact sh_items (by omega) | exact sh_sums (by omega)) rfl rfl ?_
          (try rw [cc])
          (try rw [em, epd])
          refine m_barred hW (by omega) (hS _) rfl (fun _ => aK_i ?_) (fun z => absurd (by rw [hB58] at z; exact z) cb)
          refine wp_if_ne (pc := 252) (tgt := 259) dX12_findValue_252 rfl (fun _ => ?_) (fun q => absurd q (by decide))
          refine wp_iconst (pc := 259) (v := 0) dX12_findValue_259 (by decide) ?_
          refine wp_istore (pc := 260) dX12_findValue_260 (by decide) ?_
          refine wp_iinc (pc := 262) dX12_findValue_262 (by decide) (by first | rfl | assumption | (repeat first | assumption | rfl | refine aG_n ?_ rfl rfl)) rfl ?_
          refine wp_goto (pc := 265) (tgt := 200) dX12_findValue_265 rfl ?_
          exact l_fv5 hg hmm hS hW hB hM hp k f (h + 1) (by omega) 0 (Or.inr ⟨rfl, fun z => cb (efr.mp z).2⟩) _ ⟨by first | rfl | assumption | (repeat first | assumption | rfl | refine aG_n ?_ rfl rfl), by first | rfl | assumption | (repeat first | assumption | rfl | refine aG_n ?_ rfl rfl), by first | rfl | assumption | (repeat first | assumption | rfl | refine aG_n ?_ rfl rfl), by first | rfl | assumption | (repeat first | assumption | rfl | refine aG_n ?_ rfl rfl), by first | rfl | assumption | (repeat first | assumption | rfl | refine aG_n ?_ rfl rfl), by first | rfl | assumption | (repeat first | assumption | rfl | refine aG_n ?_ rfl rfl)⟩ (by rw [← esum]; first | rfl | assumption | (repeat first | assumption | rfl | refine aG_n ?_ rfl rfl)) (by first | rfl | assumption | (repeat first | assumption | rfl | refine aG_n ?_ rfl rfl)) (by rw [cn_y hb, ← nI_i1]; first | rfl | assumption | (repeat first | assumption | rfl | refine aG_n ?_ rfl rfl))
      · refine wp_iload (pc := 200) dX12_findValue_200 (by first | rfl | assumption | (repeat first | assumption | rfl | refine aG_n ?_ rfl rfl)) ?_
        refine wp_iload_n (pc := 202) dX12_findValue_202 (by first | rfl | assumption | (repeat first | assumption | rfl | refine aG_n ?_ rfl rfl)) ?_
        refine wp_icmp_ge (pc := 203) (tgt := 268) dX12_findValue_203 rfl (fun q => absurd q (by rw [hmm]; exact nI_ge (by omega) (by omega))) (fun _ => ?_)
        refine wp_iload (pc := 206) dX12_findValue_206 (by first | rfl | assumption | (repeat first | assumption | rfl | refine aG_n ?_ rfl rfl)) ?_
        refine wp_aload_n (pc := 208) dX12_findValue_208 (by first | rfl | assumption | (repeat first | assumption | rfl | refine aG_n ?_ rfl rfl)) ?_
        refine wp_aload_n (pc := 209) dX12_findValue_209 (by first | rfl | assumption | (repeat first | assumption | rfl | refine aG_n ?_ rfl rfl)) ?_
        refine wp_getR (pc := 210) dX12_findValue_210 fl_12_77 (by first | rfl | assumption | exact sh_house (by omega) | exact sh_wish (by omega) | exact sh_wor (by omega) | exact sh_bar (by omega) | exact sh_term (by omega) | exact sh_sheet (by omega) | exact sh_items (by omega) | exact sh_sums (by omega)) rfl ?_
        refine wp_iload (pc := 213) dX12_findValue_213 (by first | rfl | assumption | (repeat first | assumption | rfl | refine aG_n ?_ rfl rfl)) ?_
        refine wp_iald (pc := 215) dX12_findValue_215 (by first | rfl | assumption | exact sh_house (by omega) | exact sh_wish (by omega) | exact sh_wor (by omega) | exact sh_bar (by omega) | exact sh_term (by omega) | exact sh_sheet (by omega) | exact sh_items (by omega) | exact sh_sums (by omega)) (vp_in_nI (by omega) (by decide)) ?_
        refine wp_aload_n (pc := 216) dX12_findValue_216 (by first | rfl | assumption | (repeat first | assumption | rfl | refine aG_n ?_ rfl rfl)) ?_
        refine wp_getR (pc := 217) dX12_findValue_217 fl_12_80 (by first | rfl | assumption | exact sh_house (by omega) | exact sh_wish (by omega) | exact sh_wor (by omega) | exact sh_bar (by omega) | exact sh_term (by omega) | exact sh_sheet (by omega) | exact sh_items (by omega) | exact sh_sums (by omega)) rfl ?_
        refine wp_iload (pc := 220) dX12_findValue_220 (by first | rfl | assumption | (repeat first | assumption | rfl | refine aG_n ?_ rfl rfl)) ?_
        refine wp_iald (pc := 222) dX12_findValue_222 (by first | rfl | assumption | exact sh_house (by omega) | exact sh_wish (by omega) | exact sh_wor (by omega) | exact sh_bar (by omega) | exact sh_term (by omega) | exact sh_sheet (by omega) | exact sh_items (by omega) | exact sh_sums (by omega)) (vp_in_nI (by omega) (by decide)) ?_
        refine wp_cV (pc := 223) dX12_findValue_223 lk_12_200 rfl (by decide) rfl (by first | rfl | assumption | exact sh_house (by omega) | exact sh_wish (by omega) | exact sh_wor (by omega) | exact sh_bar (by omega) | exact sh_term (by omega) | exact sh_sheet (by omega) | exact sh_items (by omega) | exact sh_sums (by omega)) rfl rfl ?_
        rw [cc, em, epd]
        refine m_worth hW (by omega) (hS _) rfl ?_
        rw [hB57]
        refine aK_i ?_
        refine wp_iadd (pc := 226) dX12_findValue_226 ?_
        refine wp_istore (pc := 227) dX12_findValue_227 (by decide) ?_
        refine wp_iload (pc := 229) dX12_findValue_229 (by first | rfl | assumption | (repeat first | assumption | rfl | refine aG_n ?_ rfl rfl)) ?_
        refine wp_if_eq (pc := 231) (tgt := 259) dX12_findValue_231 rfl (fun _ => ?_) (fun q => absurd rfl q)
        refine wp_iconst (pc := 259) (v := 0) dX12_findValue_259 (by decide) ?_
        refine wp_istore (pc := 260) dX12_findValue_260 (by decide) ?_
        refine wp_iinc (pc := 262) dX12_findValue_262 (by decide) (by first | rfl | assumption | (repeat first | assumption | rfl | refine aG_n ?_ rfl rfl)) rfl ?_
        refine wp_goto (pc := 265) (tgt := 200) dX12_findValue_265 rfl ?_
        exact l_fv5 hg hmm hS hW hB hM hp k f (h + 1) (by omega) 0 (Or.inr ⟨rfl, fun z => hv (efr.mp z).1⟩) _ ⟨by first | rfl | assumption | (repeat first | assumption | rfl | refine aG_n ?_ rfl rfl), by first | rfl | assumption | (repeat first | assumption | rfl | refine aG_n ?_ rfl rfl), by first | rfl | assumption | (repeat first | assumption | rfl | refine aG_n ?_ rfl rfl), by first | rfl | assumption | (repeat first | assumption | rfl | refine aG_n ?_ rfl rfl), by first | rfl | assumption | (repeat first | assumption | rfl | refine aG_n ?_ rfl rfl), by first | rfl | assumption | (repeat first | assumption | rfl | refine aG_n ?_ rfl rfl)⟩ (by rw [← esum]; first | rfl | assumption | (repeat first | assumption | rfl | refine aG_n ?_ rfl rfl)) (by first | rfl | assumption | (repeat first | assumption | rfl | refine aG_n ?_ rfl rfl)) (by rw [cn_y hb, ← nI_i1]; first | rfl | assumption | (repeat first | assumption | rfl | refine aG_n ?_ rfl rfl))
    · have esum : sH B S g (h + 1) = sH B S g h := by show (if _ then _ else _) = _; rw [if_neg hb]
      have efr : fH B S g (h + 1) ↔ fH B S g h := ⟨fun z => z.1, fun z => ⟨z, fun y => absurd y hb⟩⟩
      exact l_fv5 hg hmm hS hW hB hM hp k f (h + 1) (by omega) v (by rw [efr]; exact hv) L gl (by rw [esum]; exact g7) g8 (by rw [cn_n hb]; exact g9)
def mxP (M B : MM) (g T m c : Nat) : Prop := (M 108 g = 0 ∧ M 107 g = 0 ∧ ∀ x, x < c → ¬ fH B (fun j => sb T (dgt T m x) j 6) g 4) ∨ (M 108 g = 1 ∧ (∃ x, x < c ∧ fH B (fun j => sb T (dgt T m x) j 6) g 4 ∧ sH B (fun j => sb T (dgt T m x) j 6) g 4 = M 107 g) ∧ ∀ x, x < c → fH B (fun j => sb T (dgt T m x) j 6) g 4 → (sH B (fun j => sb T (dgt T m x) j 6) g 4).toInt ≤ (M 107 g).toInt)
theorem l_fv {B : MM} (hg : g < 16) (hmm : m = cn g 4) (hm0 : 0 < m) (hT : T < 64) (hall : all < 2 ^ 20) (hW : I_wish μ.1) (hB : ∀ i, i < 4 → μ.1 (57 + 4 * i) = B (57 + 4 * i) ∧ μ.1 (58 + 4 * i) = B (58 + 4 * i)) (k : ∀ μ' : Mm, offV g μ μ' → mxP μ'.1 B g T m all → Q none μ') : ∀ (f c : Nat), c + f = all → ∀ μ' : Mm, offV g μ μ' → mbP μ'.1 g → mxP μ'.1 B g T m c → ∀ L : aL, fvL L g m T all c → WP X mX12_findValue 105 L [] μ' Q
  | 0, c, hc, μ', ho, hM, hx, L, gl => by
    obtain rfl : c = all := by omega
    obtain ⟨g0, g1, g2, g3, g4, g5⟩ := id gl
    refine wp_iload (pc := 105) dX12_findValue_105 (by first | rfl | assumption | (repeat first | assumption | rfl | refine aG_n ?_ rfl rfl)) ?_
    refine wp_iload (pc := 107) dX12_findValue_107 (by first | rfl | assumption | (repeat first | assumption | rfl | refine aG_n ?_ rfl rfl)) ?_
    refine wp_icmp_ge (pc := 109) (tgt := 314) dX12_findValue_109 rfl (fun _ => ?_) (fun q => absurd (nI_le (by omega) (by omega)) q)
    refine wp_vreturn (pc := 314) dX12_findValue_314 rfl ?_
    exact k _ ho hx
  | f + 1, c, hc, μ', ho, hM, hx, L, gl => by
    obtain ⟨g0, g1, g2, g3, g4, g5⟩ := id gl
    have h4 := cn_le g 4
    have cg : (nI g).toNatClampNeg = g := nI_clamp (by omega)
    have nxt : ∀ μ4 : Mm, offV g μ μ4 → mbP μ4.1 g → mxP μ4.1 B g T m (c + 1) → ∀ L : aL, fvL L g m T all c → WP X mX12_findValue 308 L [] μ4 Q := by
      intro μ4 o4 hM4 hx4 L gl
      obtain ⟨g0, g1, g2, g3, g4, g5⟩ := id gl
      refine wp_iinc (pc := 308) dX12_findValue_308 (by decide) (by first | rfl | assumption | (repeat first | assumption | rfl | refine aG_n ?_ rfl rfl)) rfl ?_
      refine wp_goto (pc := 311) (tgt := 105) dX12_findValue_311 rfl ?_
      exact l_fv hg hmm hm0 hT hall hW hB k f (c + 1) (by omega) _ o4 hM4 hx4 _ ⟨by first | rfl | assumption | (repeat first | assumption | rfl | refine aG_n ?_ rfl rfl), by first | rfl | assumption | (repeat first | assumption | rfl | refine aG_n ?_ rfl rfl), by first | rfl | assumption | (repeat first | assumption | rfl | refine aG_n ?_ rfl rfl), by first | rfl | assumption | (repeat first | assumption | rfl | refine aG_n ?_ rfl rfl), by first | rfl | assumption | (repeat first | assumption | rfl | refine aG_n ?_ rfl rfl), by rw [← nI_i1]; first | rfl | assumption | (repeat first | assumption | rfl | refine aG_n ?_ rfl rfl)⟩
    have lt1 : ∀ {P : Nat → Prop}, (∀ x, x < c → P x) → P c → ∀ x, x < c + 1 → P x := fun h1 h2 x hx => if e : x = c then e ▸ h2 else h1 x (by omega)
    have cmp : ∀ μ3 : Mm, offV g μ μ3 → mbP μ3.1 g → (μ3.1 107 g = μ'.1 107 g ∧ μ3.1 108 g = μ'.1 108 g) → ∀ v, ((v = 1 ∧ fH B (fun j => sb T (dgt T m c) j 6) g 4) ∨ (v = 0 ∧ ¬ fH B (fun j => sb T (dgt T m c) j 6) g 4)) → ∀ L : aL, fvL L g m T all c → aL_get L 7 = some (.int (sH B (fun j => sb T (dgt T m c) j 6) g 4)) → aL_get L 8 = some (.int v) → WP X mX12_findValue 268 L [] μ3 Q := by
      intro μ3 o3 hM3 he v hv L gl g7 g8
      obtain ⟨g0, g1, g2, g3, g4, g5⟩ := id gl
      have hx3 : mxP μ3.1 B g T m c := by unfold mxP; rw [he.1, he.2]; exact hx
      have stv : ∀ w : Int32, w = sH B (fun j => sb T (dgt T m c) j 6) g 4 → offV g μ (up2 (up2 μ3.1 108 g 1) 107 g w, μ3.2) ∧ mbP (up2 (up2 μ3.1 108 g 1) 107 g w) g ∧ up2 (up2 μ3.1 108 g 1) 107 g w 108 g = 1 ∧ up2 (up2 μ3.1 108 g 1) 107 g w 107 g = w := fun w _ => by
        refine ⟨⟨fun x j hx => ?_, o3.2⟩, fun h hh hb => ?_, ?_, up2_at⟩
        · dsimp only; rw [up2_p (by omega), up2_p (by omega)]; exact o3.1 x j hx
        · rw [up2_ne (by omega), up2_ne (by omega)]; exact hM3 h hh hb
        · rw [up2_ne (by omega), up2_at]
      obtain ⟨s1, s2, s3, s4⟩ := stv _ rfl
      rcases hv with ⟨rfl, hf⟩ | ⟨rfl, hf⟩
      · rcases hx3 with ⟨h8, h7, hno⟩ | ⟨h8, ⟨x0, hx0, hf0, hs0⟩, hle⟩
        · refine wp_iload (pc := 268) dX12_findValue_268 (by first | rfl | assumption | (repeat first | assumption | rfl | refine aG_n ?_ rfl rfl)) ?_
          refine wp_if_eq (pc := 270) (tgt := 308) dX12_findValue_270 rfl (fun q => absurd q (by decide)) (fun _ => ?_)
          refine wp_aload_n (pc := 273) dX12_findValue_273 (by first | rfl | assumption | (repeat first | assumption | rfl | refine aG_n ?_ rfl rfl)) ?_
          refine wp_getR (pc := 274) dX12_findValue_274 fl_12_74 (by first | rfl | assumption | exact sh_house (by omega) | exact sh_wish (by omega) | exact sh_wor (by omega) | exact sh_bar (by omega) | exact sh_term (by omega) | exact sh_sheet (by omega) | exact sh_items (by omega) | exact sh_sums (by omega)) rfl ?_
          refine wp_iload_n (pc := 277) dX12_findValue_277 (by first | rfl | assumption | (repeat first | assumption | rfl | refine aG_n ?_ rfl rfl)) ?_
          refine wp_zald (pc := 278) dX12_findValue_278 (by first | rfl | assumption | exact sh_house (by omega) | exact sh_wish (by omega) | exact sh_wor (by omega) | exact sh_bar (by omega) | exact sh_term (by omega) | exact sh_sheet (by omega) | exact sh_items (by omega) | exact sh_sums (by omega)) (vp_in_nI hg (by decide)) ?_
          refine wp_if_eq (pc := 279) (tgt := 293) dX12_findValue_279 rfl (fun _ => ?_) (fun q => absurd (by rw [cg]; exact h8) q)
          refine wp_aload_n (pc := 293) dX12_findValue_293 (by first | rfl | assumption | (repeat first | assumption | rfl | refine aG_n ?_ rfl rfl)) ?_
          refine wp_getR (pc := 294) dX12_findValue_294 fl_12_74 (by first | rfl | assumption | exact sh_house (by omega) | exact sh_wish (by omega) | exact sh_wor (by omega) | exact sh_bar (by omega) | exact sh_term (by omega) | exact sh_sheet (by omega) | exact sh_items (by omega) | exact sh_sums (by omega)) rfl ?_
          refine wp_iload_n (pc := 297) dX12_findValue_297 (by first | rfl | assumption | (repeat first | assumption | rfl | refine aG_n ?_ rfl rfl)) ?_
          refine wp_iconst (pc := 298) (v := 1) dX12_findValue_298 (by decide) ?_
          refine wp_zast (pc := 299) dX12_findValue_299 (by first | rfl | assumption | exact sh_house (by omega) | exact sh_wish (by omega) | exact sh_wor (by omega) | exact sh_bar (by omega) | exact sh_term (by omega) | exact sh_sheet (by omega) | exact sh_items (by omega) | exact sh_sums (by omega)) (vp_in_nI hg (by decide)) (show vp_nar .boolean 1 = 1 from rfl) ?_
          refine wp_aload_n (pc := 300) dX12_findValue_300 (by first | rfl | assumption | (repeat first | assumption | rfl | refine aG_n ?_ rfl rfl)) ?_
          refine wp_getR (pc := 301) dX12_findValue_301 fl_12_71 (by first | rfl | assumption | exact sh_house (by omega) | exact sh_wish (by omega) | exact sh_wor (by omega) | exact sh_bar (by omega) | exact sh_term (by omega) | exact sh_sheet (by omega) | exact sh_items (by omega) | exact sh_sums (by omega)) rfl ?_
          refine wp_iload_n (pc := 304) dX12_findValue_304 (by first | rfl | assumption | (repeat first | assumption | rfl | refine aG_n ?_ rfl rfl)) ?_
          refine wp_iload (pc := 305) dX12_findValue_305 (by first | rfl | assumption | (repeat first | assumption | rfl | refine aG_n ?_ rfl rfl)) ?_
          refine wp_iast (pc := 307) dX12_findValue_307 (by first | rfl | assumption | exact sh_house (by omega) | exact sh_wish (by omega) | exact sh_wor (by omega) | exact sh_bar (by omega) | exact sh_term (by omega) | exact sh_sheet (by omega) | exact sh_items (by omega) | exact sh_sums (by omega)) (vp_in_nI hg (by decide)) ?_
          skip
          rw [cg]
          refine nxt _ s1 s2 (Or.inr ⟨s3, ⟨c, by omega, hf, s4.symm⟩, fun x hx hfx => ?_⟩) _ ⟨by first | rfl | assumption | (repeat first | assumption | rfl | refine aG_n ?_ rfl rfl), by first | rfl | assumption | (repeat first | assumption | rfl | refine aG_n ?_ rfl rfl), by first | rfl | assumption | (repeat first | assumption | rfl | refine aG_n ?_ rfl rfl), by first | rfl | assumption | (repeat first | assumption | rfl | refine aG_n ?_ rfl rfl), by first | rfl | assumption | (repeat first | assumption | rfl | refine aG_n ?_ rfl rfl), by first | rfl | assumption | (repeat first | assumption | rfl | refine aG_n ?_ rfl rfl)⟩
          dsimp only
          rw [s4]
          by_cases e : x = c
          · rw [e]; exact Int.le_refl _
          · exact absurd hfx (hno x (by omega))
        · by_cases cl : sH B (fun j => sb T (dgt T m c) j 6) g 4 ≤ μ3.1 107 g
          · refine wp_iload (pc := 268) dX12_findValue_268 (by first | rfl | assumption | (repeat first | assumption | rfl | refine aG_n ?_ rfl rfl)) ?_
            refine wp_if_eq (pc := 270) (tgt := 308) dX12_findValue_270 rfl (fun q => absurd q (by decide)) (fun _ => ?_)
            refine wp_aload_n (pc := 273) dX12_findValue_273 (by first | rfl | assumption | (repeat first | assumption | rfl | refine aG_n ?_ rfl rfl)) ?_
            refine wp_getR (pc := 274) dX12_findValue_274 fl_12_74 (by first | rfl | assumption | exact sh_house (by omega) | exact sh_wish (by omega) | exact sh_wor (by omega) | exact sh_bar (by omega) | exact sh_term (by omega) | exact sh_sheet (by omega) | exact sh_items (by omega) | exact sh_sums (by omega)) rfl ?_
            refine wp_iload_n (pc := 277) dX12_findValue_277 (by first | rfl | assumption | (repeat first | assumption | rfl | refine aG_n ?_ rfl rfl)) ?_
            refine wp_zald (pc := 278) dX12_findValue_278 (by first | rfl | assumption | exact sh_house (by omega) | exact sh_wish (by omega) | exact sh_wor (by omega) | exact sh_bar (by omega) | exact sh_term (by omega) | exact sh_sheet (by omega) | exact sh_items (by omega) | exact sh_sums (by omega)) (vp_in_nI hg (by decide)) ?_
            refine wp_if_eq (pc := 279) (tgt := 293) dX12_findValue_279 rfl (fun q => absurd q (by rw [cg, h8]; decide)) (fun _ => ?_)
            refine wp_iload (pc := 282) dX12_findValue_282 (by first | rfl | assumption | (repeat first | assumption | rfl | refine aG_n ?_ rfl rfl)) ?_
            refine wp_aload_n (pc := 284) dX12_findValue_284 (by first | rfl | assumption | (repeat first | assumption | rfl | refine aG_n ?_ rfl rfl)) ?_
            refine wp_getR (pc := 285) dX12_findValue_285 fl_12_71 (by first | rfl | assumption | exact sh_house (by omega) | exact sh_wish (by omega) | exact sh_wor (by omega) | exact sh_bar (by omega) | exact sh_term (by omega) | exact sh_sheet (by omega) | exact sh_items (by omega) | exact sh_sums (by omega)) rfl ?_
            refine wp_iload_n (pc := 288) dX12_findValue_288 (by first | rfl | assumption | (repeat first | assumption | rfl | refine aG_n ?_ rfl rfl)) ?_
            refine wp_iald (pc := 289) dX12_findValue_289 (by first | rfl | assumption | exact sh_house (by omega) | exact sh_wish (by omega) | exact sh_wor (by omega) | exact sh_bar (by omega) | exact sh_term (by omega) | exact sh_sheet (by omega) | exact sh_items (by omega) | exact sh_sums (by omega)) (vp_in_nI hg (by decide)) ?_
            refine wp_icmp_le (pc := 290) (tgt := 308) dX12_findValue_290 rfl (fun _ => ?_) (fun q => absurd (by rw [cg]; exact cl) q)
            skip
            refine nxt _ o3 hM3 (Or.inr ⟨h8, ⟨x0, by omega, hf0, hs0⟩, fun x hx hfx => ?_⟩) _ ⟨by first | rfl | assumption | (repeat first | assumption | rfl | refine aG_n ?_ rfl rfl), by first | rfl | assumption | (repeat first | assumption | rfl | refine aG_n ?_ rfl rfl), by first | rfl | assumption | (repeat first | assumption | rfl | refine aG_n ?_ rfl rfl), by first | rfl | assumption | (repeat first | assumption | rfl | refine aG_n ?_ rfl rfl), by first | rfl | assumption | (repeat first | assumption | rfl | refine aG_n ?_ rfl rfl), by first | rfl | assumption | (repeat first | assumption | rfl | refine aG_n ?_ rfl rfl)⟩
            by_cases e : x = c
            · rw [e]; exact (i_le _ _).mp cl
            · exact hle x (by omega) hfx
          · refine wp_iload (pc := 268) dX12_findValue_268 (by first | rfl | assumption | (repeat first | assumption | rfl | refine aG_n ?_ rfl rfl)) ?_
            refine wp_if_eq (pc := 270) (tgt := 308) dX12_findValue_270 rfl (fun q => absurd q (by decide)) (fun _ => ?_)
            refine wp_aload_n (pc := 273) dX12_findValue_273 (by first | rfl | assumption | (repeat first | assumption | rfl | refine aG_n ?_ rfl rfl)) ?_
            refine wp_getR (pc := 274) dX12_findValue_274 fl_12_74 (by first | rfl | assumption | exact sh_house (by omega) | exact sh_wish (by omega) | exact sh_wor (by omega) | exact sh_bar (by omega) | exact sh_term (by omega) | exact sh_sheet (by omega) | exact sh_items (by omega) | exact sh_sums (by omega)) rfl ?_
            refine wp_iload_n (pc := 277) dX12_findValue_277 (by first | rfl | assumption | (repeat first | assumption | rfl | refine aG_n ?_ rfl rfl)) ?_
            refine wp_zald (pc := 278) dX12_findValue_278 (by first | rfl | assumption | exact sh_house (by omega) | exact sh_wish (by omega) | exact sh_wor (by omega) | exact sh_bar (by omega) | exact sh_term (by omega) | exact sh_sheet (by omega) | exact sh_items (by omega) | exact sh_sums (by omega)) (vp_in_nI hg (by decide)) ?_
            refine wp_if_eq (pc := 279) (tgt := 293) dX12_findValue_279 rfl (fun q => absurd q (by rw [cg, h8]; decide)) (fun _ => ?_)
            refine wp_iload (pc := 282) dX12_findValue_282 (by first | rfl | assumption | (repeat first | assumption | rfl | refine aG_n ?_ rfl rfl)) ?_
            refine wp_aload_n (pc := 284) dX12_findValue_284 (by first | rfl | assumption | (repeat first | assumption | rfl | refine aG_n ?_ rfl rfl)) ?_
            refine wp_getR (pc := 285) dX12_findValue_285 fl_12_71 (by first | rfl | assumption | exact sh_house (by omega) | exact sh_wish (by omega) | exact sh_wor (by omega) | exact sh_bar (by omega) | exact sh_term (by omega) | exact sh_sheet (by omega) | exact sh_items (by omega) | exact sh_sums (by omega)) rfl ?_
            refine wp_iload_n (pc := 288) dX12_findValue_288 (by first | rfl | assumption | (repeat first | assumption | rfl | refine aG_n ?_ rfl rfl)) ?_
            refine wp_iald (pc := 289) dX12_findValue_289 (by first | rfl | assumption | exact sh_house (by omega) | exact sh_wish (by omega) | exact sh_wor (by omega) | exact sh_bar (by omega) | exact sh_term (by omega) | exact sh_sheet (by omega) | exact sh_items (by omega) | exact sh_sums (by omega)) (vp_in_nI hg (by decide)) ?_
            refine wp_icmp_le (pc := 290) (tgt := 308) dX12_findValue_290 rfl (fun q => absurd q (by rw [cg]; exact cl)) (fun _ => ?_)
            refine wp_aload_n (pc := 293) dX12_findValue_293 (by first | rfl | assumption | (repeat first | assumption | rfl | refine aG_n ?_ rfl rfl)) ?_
            refine wp_getR (pc := 294) dX12_findValue_294 fl_12_74 (by first | rfl | assumption | exact sh_house (by omega) | exact sh_wish (by omega) | exact sh_wor (by omega) | exact sh_bar (by omega) | exact sh_term (by omega) | exact sh_sheet (by omega) | exact sh_items (by omega) | exact sh_sums (by omega)) rfl ?_
            refine wp_iload_n (pc := 297) dX12_findValue_297 (by first | rfl | assumption | (repeat first | assumption | rfl | refine aG_n ?_ rfl rfl)) ?_
            refine wp_iconst (pc := 298) (v := 1) dX12_findValue_298 (by decide) ?_
            refine wp_zast (pc := 299) dX12_findValue_299 (by first | rfl | assumption | exact sh_house (by omega) | exact sh_wish (by omega) | exact sh_wor (by omega) | exact sh_bar (by omega) | exact sh_term (by omega) | exact sh_sheet (by omega) | exact sh_items (by omega) | exact sh_sums (by omega)) (vp_in_nI hg (by decide)) (show vp_nar .boolean 1 = 1 from rfl) ?_
            refine wp_aload_n (pc := 300) dX12_findValue_300 (by first | rfl | assumption | (repeat first | assumption | rfl | refine aG_n ?_ rfl rfl)) ?_
            refine wp_getR (pc := 301) dX12_findValue_301 fl_12_71 (by first | rfl | assumption | exact sh_house (by omega) | exact sh_wish (by omega) | exact sh_wor (by omega) | exact sh_bar (by omega) | exact sh_term (by omega) | exact sh_sheet (by omega) | exact sh_items (by omega) | exact sh_sums (by omega)) rfl ?_
            refine wp_iload_n (pc := 304) dX12_findValue_304 (by first | rfl | assumption | (repeat first | assumption | rfl | refine aG_n ?_ rfl rfl)) ?_
            refine wp_iload (pc := 305) dX12_findValue_305 (by first | rfl | assumption | (repeat first | assumption | rfl | refine aG_n ?_ rfl rfl)) ?_
            refine wp_iast (pc := 307) dX12_findValue_307 (by first | rfl | assumption | exact sh_house (by omega) | exact sh_wish (by omega) | exact sh_wor (by omega) | exact sh_bar (by omega) | exact sh_term (by omega) | exact sh_sheet (by omega) | exact sh_items (by omega) | exact sh_sums (by omega)) (vp_in_nI hg (by decide)) ?_
            skip
            rw [cg]
            refine nxt _ s1 s2 (Or.inr ⟨s3, ⟨c, by omega, hf, s4.symm⟩, fun x hx hfx => ?_⟩) _ ⟨by first | rfl | assumption | (repeat first | assumption | rfl | refine aG_n ?_ rfl rfl), by first | rfl | assumption | (repeat first | assumption | rfl | refine aG_n ?_ rfl rfl), by first | rfl | assumption | (repeat first | assumption | rfl | refine aG_n ?_ rfl rfl), by first | rfl | assumption | (repeat first | assumption | rfl | refine aG_n ?_ rfl rfl), by first | rfl | assumption | (repeat first | assumption | rfl | refine aG_n ?_ rfl rfl), by first | rfl | assumption | (repeat first | assumption | rfl | refine aG_n ?_ rfl rfl)⟩
            dsimp only
            rw [s4]
            by_cases e : x = c
            · rw [e]; exact Int.le_refl _
            · have h1 := hle x (by omega) hfx
              have h2 := i_nle2 cl
              rw [i_lt] at h2
              omega
      · refine wp_iload (pc := 268) dX12_findValue_268 (by first | rfl | assumption | (repeat first | assumption | rfl | refine aG_n ?_ rfl rfl)) ?_
        refine wp_if_eq (pc := 270) (tgt := 308) dX12_findValue_270 rfl (fun _ => ?_) (fun q => absurd rfl q)
        skip
        refine nxt _ o3 hM3 ?_ _ ⟨by first | rfl | assumption | (repeat first | assumption | rfl | refine aG_n ?_ rfl rfl), by first | rfl | assumption | (repeat first | assumption | rfl | refine aG_n ?_ rfl rfl), by first | rfl | assumption | (repeat first | assumption | rfl | refine aG_n ?_ rfl rfl), by first | rfl | assumption | (repeat first | assumption | rfl | refine aG_n ?_ rfl rfl), by first | rfl | assumption | (repeat first | assumption | rfl | refine aG_n ?_ rfl rfl), by first | rfl | assumption | (repeat first | assumption | rfl | refine aG_n ?_ rfl rfl)⟩
        rcases hx3 with ⟨h8, h7, hno⟩ | ⟨h8, ⟨x0, hx0, hf0, hs0⟩, hle⟩
        · exact Or.inl ⟨h8, h7, lt1 hno hf⟩
        · exact Or.inr ⟨h8, ⟨x0, by omega, hf0, hs0⟩, lt1 hle (fun z => absurd z hf)⟩
    refine wp_iload (pc := 105) dX12_findValue_105 (by first | rfl | assumption | (repeat first | assumption | rfl | refine aG_n ?_ rfl rfl)) ?_
    refine wp_iload (pc := 107) dX12_findValue_107 (by first | rfl | assumption | (repeat first | assumption | rfl | refine aG_n ?_ rfl rfl)) ?_
    refine wp_icmp_ge (pc := 109) (tgt := 314) dX12_findValue_109 rfl (fun q => absurd q (nI_ge (by omega) (by omega))) (fun _ => ?_)
    refine wp_iload_n (pc := 112) dX12_findValue_112 (by first | rfl | assumption | (repeat first | assumption | rfl | refine aG_n ?_ rfl rfl)) ?_
    refine wp_if_le (pc := 113) (tgt := 314) dX12_findValue_113 rfl (fun q => absurd q (nI_nle hm0 (by omega))) (fun _ => ?_)
    refine wp_iload (pc := 116) dX12_findValue_116 (by first | rfl | assumption | (repeat first | assumption | rfl | refine aG_n ?_ rfl rfl)) ?_
    refine wp_istore (pc := 118) dX12_findValue_118 (by decide) ?_
    refine wp_iconst (pc := 120) (v := 0) dX12_findValue_120 (by decide) ?_
    refine wp_istore (pc := 121) dX12_findValue_121 (by decide) ?_
    skip
    refine l_fv3 (μ := μ') (m := m) (by omega) (fun μ1 o1 r1 z1 L gl g6 => ?_) m 0 (by omega) μ' (fun _ _ => rfl) rfl (fun x hx => absurd hx (by omega)) _ ⟨by first | rfl | assumption | (repeat first | assumption | rfl | refine aG_n ?_ rfl rfl), by first | rfl | assumption | (repeat first | assumption | rfl | refine aG_n ?_ rfl rfl), by first | rfl | assumption | (repeat first | assumption | rfl | refine aG_n ?_ rfl rfl), by first | rfl | assumption | (repeat first | assumption | rfl | refine aG_n ?_ rfl rfl), by first | rfl | assumption | (repeat first | assumption | rfl | refine aG_n ?_ rfl rfl), by first | rfl | assumption | (repeat first | assumption | rfl | refine aG_n ?_ rfl rfl)⟩ (by first | rfl | assumption | (repeat first | assumption | rfl | refine aG_n ?_ rfl rfl)) (by first | rfl | assumption | (repeat first | assumption | rfl | refine aG_n ?_ rfl rfl))
    obtain ⟨g0, g1, g2, g3, g4, g5⟩ := id gl
    refine wp_iconst (pc := 143) (v := 0) dX12_findValue_143 (by decide) ?_
    refine wp_istore (pc := 144) dX12_findValue_144 (by decide) ?_
    skip
    refine l_fv4 (μ := μ') (m := m) (c := c) hm0 (by omega) hT (by omega) (fun μ2 o2 r2 s2 L gl => ?_) 6 0 (by omega) μ1 o1 r1 (fun j hj => z1 j hj) _ ⟨by first | rfl | assumption | (repeat first | assumption | rfl | refine aG_n ?_ rfl rfl), by first | rfl | assumption | (repeat first | assumption | rfl | refine aG_n ?_ rfl rfl), by first | rfl | assumption | (repeat first | assumption | rfl | refine aG_n ?_ rfl rfl), by first | rfl | assumption | (repeat first | assumption | rfl | refine aG_n ?_ rfl rfl), by first | rfl | assumption | (repeat first | assumption | rfl | refine aG_n ?_ rfl rfl), by first | rfl | assumption | (repeat first | assumption | rfl | refine aG_n ?_ rfl rfl)⟩ (by rw [show cn T 0 = 0 from rfl, Nat.pow_zero, Nat.div_one]; first | rfl | assumption | (repeat first | assumption | rfl | refine aG_n ?_ rfl rfl)) (by first | rfl | assumption | (repeat first | assumption | rfl | refine aG_n ?_ rfl rfl))
    obtain ⟨g0, g1, g2, g3, g4, g5⟩ := id gl
    have oV : offV g μ μ2 := ⟨fun x j hx => by rw [o2 x (by omega)]; exact ho.1 x j hx, r2.trans ho.2⟩
    have hM2 : mbP μ2.1 g := fun h hh hb => by rw [o2 109 (by omega)]; exact hM h hh hb
    refine wp_iconst (pc := 191) (v := 0) dX12_findValue_191 (by decide) ?_
    refine wp_istore (pc := 192) dX12_findValue_192 (by decide) ?_
    refine wp_iconst (pc := 194) (v := 1) dX12_findValue_194 (by decide) ?_
    refine wp_istore (pc := 195) dX12_findValue_195 (by decide) ?_
    refine wp_iconst (pc := 197) (v := 0) dX12_findValue_197 (by decide) ?_
    refine wp_istore (pc := 198) dX12_findValue_198 (by decide) ?_
    skip
    exact l_fv5 (μ := μ2) (B := B) (S := fun j => sb T (dgt T m c) j 6) hg hmm (fun j => sb_64 _ _ _) (oV.wish hW) (fun i hi => ⟨(oV.row (by omega)).trans (hB i hi).1, (oV.row (by omega)).trans (hB i hi).2⟩) hM2 s2 (cmp μ2 oV hM2 ⟨by rw [o2 107 (by omega)], by rw [o2 108 (by omega)]⟩) 4 0 (by omega) 1 (Or.inl ⟨rfl, trivial⟩) _ ⟨by first | rfl | assumption | (repeat first | assumption | rfl | refine aG_n ?_ rfl rfl), by first | rfl | assumption | (repeat first | assumption | rfl | refine aG_n ?_ rfl rfl), by first | rfl | assumption | (repeat first | assumption | rfl | refine aG_n ?_ rfl rfl), by first | rfl | assumption | (repeat first | assumption | rfl | refine aG_n ?_ rfl rfl), by first | rfl | assumption | (repeat first | assumption | rfl | refine aG_n ?_ rfl rfl), by first | rfl | assumption | (repeat first | assumption | rfl | refine aG_n ?_ rfl rfl)⟩ (by first | rfl | assumption | (repeat first | assumption | rfl | refine aG_n ?_ rfl rfl)) (by first | rfl | assumption | (repeat first | assumption | rfl | refine aG_n ?_ rfl rfl)) (by first | rfl | assumption | (repeat first | assumption | rfl | refine aG_n ?_ rfl rfl))
/-- what findValue leaves -/
def fvR (M' M : MM) (g : Nat) : Prop := (M' 108 g = 0 ∧ M' 107 g = 0 ∧ (g = 0 ∨ vG M g = nov)) ∨ (M' 108 g = 1 ∧ 0 < g ∧ M' 107 g = vG M g ∧ ¬ vG M g = nov)
theorem c_X12_findValue (hW : I_wish μ.1) (hg : g < 16) (k : ∀ μ' : Mm, offV g μ μ' → fvR μ'.1 μ.1 g → Q none μ') : WP X mX12_findValue 0 (lv_args 0 [.ref 86, .int (nI g)]) [] μ Q := by
  have hB := wB_of hW
  have hT := tG_lt μ.1 g 4
  have h4 := cn_le g 4
  have cg : (nI g).toNatClampNeg = g := nI_clamp (by omega)
  have h6 := cn_le (tG μ.1 g 4) 6
  have hall : cn g 4 ^ cn (tG μ.1 g 4) 6 < 2 ^ 20 := by
    have h1 : cn g 4 ^ cn (tG μ.1 g 4) 6 ≤ 4 ^ cn (tG μ.1 g 4) 6 := Nat.pow_le_pow_left h4 _
    have h2 : 4 ^ cn (tG μ.1 g 4) 6 ≤ 4 ^ 6 := Nat.pow_le_pow_right (by decide) h6
    have : (4 : Nat) ^ 6 < 2 ^ 20 := by decide
    omega
  refine wp_iconst (pc := 0) (v := 0) dX12_findValue_0 (by decide) ?_
  refine wp_istore_n (pc := 1) dX12_findValue_1 (by decide) ?_
  refine wp_iconst (pc := 2) (v := 0) dX12_findValue_2 (by decide) ?_
  refine wp_istore_n (pc := 3) dX12_findValue_3 (by decide) ?_
  refine wp_iconst (pc := 4) (v := 0) dX12_findValue_4 (by decide) ?_
  refine wp_istore (pc := 5) dX12_findValue_5 (by decide) ?_
  skip
  refine l_fv1 (μ := μ) hg (fun μ1 o1 hM1 L g0 g1 g2 g3 => ?_) 4 0 (by omega) μ offV.rf (fun x hx => absurd hx (by omega)) _ (by first | rfl | assumption | (repeat first | assumption | rfl | refine aG_n ?_ rfl rfl)) (by first | rfl | assumption | (repeat first | assumption | rfl | refine aG_n ?_ rfl rfl)) (by first | rfl | assumption | (repeat first | assumption | rfl | refine aG_n ?_ rfl rfl)) (by first | rfl | assumption | (repeat first | assumption | rfl | refine aG_n ?_ rfl rfl)) (by first | rfl | assumption | (repeat first | assumption | rfl | refine aG_n ?_ rfl rfl))
  refine wp_iconst (pc := 49) (v := 1) dX12_findValue_49 (by decide) ?_
  refine wp_istore (pc := 50) dX12_findValue_50 (by decide) ?_
  refine wp_iconst (pc := 52) (v := 0) dX12_findValue_52 (by decide) ?_
  refine wp_istore (pc := 53) dX12_findValue_53 (by decide) ?_
  skip
  refine l_fv2 (m := cn g 4) hT (fun L g0 g1 g2 g3 g4 => ?_) 6 0 (by omega) _ (by first | rfl | assumption | (repeat first | assumption | rfl | refine aG_n ?_ rfl rfl)) (by first | rfl | assumption | (repeat first | assumption | rfl | refine aG_n ?_ rfl rfl)) (by first | rfl | assumption | (repeat first | assumption | rfl | refine aG_n ?_ rfl rfl)) (by first | rfl | assumption | (repeat first | assumption | rfl | refine aG_n ?_ rfl rfl)) (by first | rfl | assumption | (repeat first | assumption | rfl | refine aG_n ?_ rfl rfl)) (by first | rfl | assumption | (repeat first | assumption | rfl | refine aG_n ?_ rfl rfl))
  have o2 : offV g μ (up2 (up2 μ1.1 108 g 0) 107 g 0, μ1.2) := ⟨fun x j hx => by dsimp only; rw [up2_p (by omega), up2_p (by omega)]; exact o1.1 x j hx, o1.2⟩
  have hM2 : mbP (up2 (up2 μ1.1 108 g 0) 107 g 0) g := fun h hh hb => by rw [up2_ne (by omega), up2_ne (by omega)]; exact hM1 h hh hb
  have e8 : up2 (up2 μ1.1 108 g 0) 107 g 0 108 g = 0 := by rw [up2_ne (by omega), up2_at]
  have e7 : up2 (up2 μ1.1 108 g 0) 107 g 0 107 g = 0 := up2_at
  by_cases hg0 : g = 0
  · have c0 : cn g 4 = 0 := by rw [hg0]; rfl
    refine wp_aload_n (pc := 88) dX12_findValue_88 (by first | rfl | assumption | (repeat first | assumption | rfl | refine aG_n ?_ rfl rfl)) ?_
    refine wp_getR (pc := 89) dX12_findValue_89 fl_12_74 (by first | rfl | assumption | exact sh_house (by omega) | exact sh_wish (by omega) | exact sh_wor (by omega) | exact sh_bar (by omega) | exact sh_term (by omega) | exact sh_sheet (by omega) | exact sh_items (by omega) | exact sh_sums (by omega)) rfl ?_
    refine wp_iload_n (pc := 92) dX12_findValue_92 (by first | rfl | assumption | (repeat first | assumption | rfl | refine aG_n ?_ rfl rfl)) ?_
    refine wp_iconst (pc := 93) (v := 0) dX12_findValue_93 (by decide) ?_
    refine wp_zast (pc := 94) dX12_findValue_94 (by first | rfl | assumption | exact sh_house (by omega) | exact sh_wish (by omega) | exact sh_wor (by omega) | exact sh_bar (by omega) | exact sh_term (by omega) | exact sh_sheet (by omega) | exact sh_items (by omega) | exact sh_sums (by omega)) (vp_in_nI hg (by decide)) (show vp_nar .boolean 0 = 0 from rfl) ?_
    refine wp_aload_n (pc := 95) dX12_findValue_95 (by first | rfl | assumption | (repeat first | assumption | rfl | refine aG_n ?_ rfl rfl)) ?_
    refine wp_getR (pc := 96) dX12_findValue_96 fl_12_71 (by first | rfl | assumption | exact sh_house (by omega) | exact sh_wish (by omega) | exact sh_wor (by omega) | exact sh_bar (by omega) | exact sh_term (by omega) | exact sh_sheet (by omega) | exact sh_items (by omega) | exact sh_sums (by omega)) rfl ?_
    refine wp_iload_n (pc := 99) dX12_findValue_99 (by first | rfl | assumption | (repeat first | assumption | rfl | refine aG_n ?_ rfl rfl)) ?_
    refine wp_iconst (pc := 100) (v := 0) dX12_findValue_100 (by decide) ?_
    refine wp_iast (pc := 101) dX12_findValue_101 (by first | rfl | assumption | exact sh_house (by omega) | exact sh_wish (by omega) | exact sh_wor (by omega) | exact sh_bar (by omega) | exact sh_term (by omega) | exact sh_sheet (by omega) | exact sh_items (by omega) | exact sh_sums (by omega)) (vp_in_nI hg (by decide)) ?_
    refine wp_iconst (pc := 102) (v := 0) dX12_findValue_102 (by decide) ?_
    refine wp_istore (pc := 103) dX12_findValue_103 (by decide) ?_
    refine wp_iload (pc := 105) dX12_findValue_105 (by first | rfl | assumption | (repeat first | assumption | rfl | refine aG_n ?_ rfl rfl)) ?_
    refine wp_iload (pc := 107) dX12_findValue_107 (by first | rfl | assumption | (repeat first | assumption | rfl | refine aG_n ?_ rfl rfl)) ?_
    refine wp_icmp_ge (pc := 109) (tgt := 314) dX12_findValue_109 rfl (fun c109_1 => ?_) (fun c109_1 => ?_)
    · refine wp_vreturn (pc := 314) dX12_findValue_314 rfl ?_
      rw [cg]; exact k _ o2 (Or.inl ⟨e8, e7, Or.inl hg0⟩)
    · refine wp_iload_n (pc := 112) dX12_findValue_112 (by first | rfl | assumption | (repeat first | assumption | rfl | refine aG_n ?_ rfl rfl)) ?_
      refine wp_if_le (pc := 113) (tgt := 314) dX12_findValue_113 rfl (fun _ => ?_) (fun q => absurd (by rw [c0]; decide) q)
      refine wp_vreturn (pc := 314) dX12_findValue_314 rfl ?_
      rw [cg]; exact k _ o2 (Or.inl ⟨e8, e7, Or.inl hg0⟩)
  · have hm0 := cn_4 g hg (Nat.pos_of_ne_zero hg0)
    refine wp_aload_n (pc := 88) dX12_findValue_88 (by first | rfl | assumption | (repeat first | assumption | rfl | refine aG_n ?_ rfl rfl)) ?_
    refine wp_getR (pc := 89) dX12_findValue_89 fl_12_74 (by first | rfl | assumption | exact sh_house (by omega) | exact sh_wish (by omega) | exact sh_wor (by omega) | exact sh_bar (by omega) | exact sh_term (by omega) | exact sh_sheet (by omega) | exact sh_items (by omega) | exact sh_sums (by omega)) rfl ?_
    refine wp_iload_n (pc := 92) dX12_findValue_92 (by first | rfl | assumption | (repeat first | assumption | rfl | refine aG_n ?_ rfl rfl)) ?_
    refine wp_iconst (pc := 93) (v := 0) dX12_findValue_93 (by decide) ?_
    refine wp_zast (pc := 94) dX12_findValue_94 (by first | rfl | assumption | exact sh_house (by omega) | exact sh_wish (by omega) | exact sh_wor (by omega) | exact sh_bar (by omega) | exact sh_term (by omega) | exact sh_sheet (by omega) | exact sh_items (by omega) | exact sh_sums (by omega)) (vp_in_nI hg (by decide)) (show vp_nar .boolean 0 = 0 from rfl) ?_
    refine wp_aload_n (pc := 95) dX12_findValue_95 (by first | rfl | assumption | (repeat first | assumption | rfl | refine aG_n ?_ rfl rfl)) ?_
    refine wp_getR (pc := 96) dX12_findValue_96 fl_12_71 (by first | rfl | assumption | exact sh_house (by omega) | exact sh_wish (by omega) | exact sh_wor (by omega) | exact sh_bar (by omega) | exact sh_term (by omega) | exact sh_sheet (by omega) | exact sh_items (by omega) | exact sh_sums (by omega)) rfl ?_
    refine wp_iload_n (pc := 99) dX12_findValue_99 (by first | rfl | assumption | (repeat first | assumption | rfl | refine aG_n ?_ rfl rfl)) ?_
    refine wp_iconst (pc := 100) (v := 0) dX12_findValue_100 (by decide) ?_
    refine wp_iast (pc := 101) dX12_findValue_101 (by first | rfl | assumption | exact sh_house (by omega) | exact sh_wish (by omega) | exact sh_wor (by omega) | exact sh_bar (by omega) | exact sh_term (by omega) | exact sh_sheet (by omega) | exact sh_items (by omega) | exact sh_sums (by omega)) (vp_in_nI hg (by decide)) ?_
    refine wp_iconst (pc := 102) (v := 0) dX12_findValue_102 (by decide) ?_
    refine wp_istore (pc := 103) dX12_findValue_103 (by decide) ?_
    skip
    rw [cg]
    refine l_fv (μ := μ) (B := μ.1) (all := cn g 4 ^ cn (tG μ.1 g 4) 6) hg rfl hm0 hT hall hW (fun i hi => ⟨rfl, rfl⟩) (fun μ3 o3 hx3 => k _ o3 ?_) (cn g 4 ^ cn (tG μ.1 g 4) 6) 0 (by omega) (up2 (up2 μ1.1 108 g 0) 107 g 0, μ1.2) o2 hM2 (Or.inl ⟨e8, e7, fun x hx => absurd hx (by omega)⟩) _ ⟨by first | rfl | assumption | (repeat first | assumption | rfl | refine aG_n ?_ rfl rfl), by first | rfl | assumption | (repeat first | assumption | rfl | refine aG_n ?_ rfl rfl), by first | rfl | assumption | (repeat first | assumption | rfl | refine aG_n ?_ rfl rfl), by first | rfl | assumption | (repeat first | assumption | rfl | refine aG_n ?_ rfl rfl), by first | rfl | assumption | (repeat first | assumption | rfl | refine aG_n ?_ rfl rfl), by first | rfl | assumption | (repeat first | assumption | rfl | refine aG_n ?_ rfl rfl)⟩
    obtain ⟨A1, A2⟩ := mx_all (M := μ.1) (g := g) (T := tG μ.1 g 4) hB (Nat.pos_of_ne_zero hg0) hg hT
    rcases hx3 with ⟨h8, h7, hno⟩ | ⟨h8, ⟨x0, hx0, hf0, hs0⟩, hle⟩
    · refine Or.inl ⟨h8, h7, Or.inr ?_⟩
      by_cases q : vG μ.1 g = nov
      · exact q
      · obtain ⟨c, hc, hf, -⟩ := A2 q
        exact absurd hf (hno c hc)
    · obtain ⟨n1, n2⟩ := A1 x0 hx0 hf0
      refine Or.inr ⟨h8, Nat.pos_of_ne_zero hg0, Int32.toInt_inj.mp ?_, n1⟩
      obtain ⟨c, hc, hf, hs⟩ := A2 n1
      have h1 := hle c hc hf
      rw [hs] at h1
      rw [hs0] at n2
      exact Int.le_antisymm n2 h1
end FINDV

/-- only what reading changes -/
def MA (μ μ' : Mm) : Prop := (∀ c j, ¬ (c = 86 ∧ j = 11) → ¬ (97 ≤ c ∧ c ≤ 99) → μ'.1 c j = μ.1 c j) ∧ μ'.2 = μ.2
theorem MA.rf {μ : Mm} : MA μ μ := ⟨fun _ _ _ _ => rfl, rfl⟩
theorem MA.mr {i : Nat} {μ μ' μ'' : Mm} (h : MA μ μ') (h' : MR i μ' μ'') : MA μ μ'' := ⟨fun c j h1 h2 => (h'.1 c j h1 (by omega)).trans (h.1 c j h1 h2), h'.2.trans h.2⟩
theorem MA.pl {p : Nat} {μ μ' μ'' : Mm} (h : MA μ μ') (h' : PL 86 11 μ' μ'' p) : MA μ μ'' := ⟨fun c j h1 h2 => (h'.1 c j h1).trans (h.1 c j h1 h2), h'.2.1.trans h.2⟩
theorem TA {n : Nat} {b : Nat → Nat} {μ μ' : Mm} (h : TG μ.1 86 10 96 b n) (hr : MA μ μ') : TG μ'.1 86 10 96 b n := h.c (hr.1 86 10 (by omega) (by omega)) (fun j => hr.1 96 j (by omega) (by omega))
def rdP (M : MM) (b : Nat → Nat) (n i : Nat) : Prop := ∀ k, k < i → M 97 k = nI (cS b n k) ∧ M 98 k = cV b n k ∧ M 99 k = b2i (cX b n k)
section ALL
variable {X : aX} {μ : Mm} {Q : Option Value → Mm → Prop} {n : Nat} {b : Nat → Nat}
theorem rdP_c {M M' : MM} {i : Nat} (h : rdP M b n i) (hc : ∀ c j, 97 ≤ c → c ≤ 99 → j < i → M' c j = M c j) : rdP M' b n i := fun k hk => by
  rw [hc 97 k (by omega) (by omega) hk, hc 98 k (by omega) (by omega) hk, hc 99 k (by omega) (by omega) hk]; exact h k hk
theorem l_all (hT : TG μ.1 86 10 96 b n) (k0 : ∀ q μ', q ≤ n → pa b n 12 0 = -20 - nI q → MA μ μ' → μ'.1 86 11 = nI q → Q (some (.int (-1))) μ') (k1 : ∀ m μ', 1 ≤ m → m ≤ 12 → pa b n 12 0 = nI m → MA μ μ' → rdP μ'.1 b n m → Q (some (.int (nI m))) μ') : ∀ (f i : Nat), i + f = 12 → 0 < f → pa b n f i = pa b n 12 0 → ps b n i ≤ n → ∀ μ', MA μ μ' → μ'.1 86 11 = nI (ps b n i) → rdP μ'.1 b n i → ∀ L : aL, aL_get L 0 = some (.ref 86) → aL_get L 1 = some (.int (nI i)) → aL_get L 2 = some (.int 1) → WP X mX12_readAll 9 L [] μ' Q
  | 0, i, hi, hf, hpa, hpi, μ', hA, hP, hd, L, g0, g1, g2 => absurd hf (by omega)
  | f + 1, i, hi, hf, hpa, hpi, μ', hA, hP, hd, L, g0, g1, g2 => by
    have hn := hT.1
    have hT' := TA hT hA
    unfold pa at hpa
    by_cases c : clOk b n (ps b n i)
    · have hat := clAt_le hT.2.1 hpi
      have hxx := nx_le (b := b) hat
      have hc := ch_lt (p := nx b n (clAt b n (ps b n i))) hT.2.1
      rw [if_pos c] at hpa
      have hrd : ∀ μ2 μ3 : Mm, MR i μ' μ2 → μ2.1 97 i = nI (cL b n (ps b n i)).2 → μ2.1 98 i = clV b n (ps b n i) → μ2.1 99 i = b2i (cBr b n (ps b n i)) → (∀ c j, 97 ≤ c → c ≤ 99 → μ3.1 c j = μ2.1 c j) → rdP μ3.1 b n (i + 1) := by
        intro μ2 μ3 m2 a1 a2 a3 hs k hk
        rw [hs 97 k (by omega) (by omega), hs 98 k (by omega) (by omega), hs 99 k (by omega) (by omega)]
        by_cases e : k = i
        · subst e; exact ⟨a1, a2, a3⟩
        · rw [m2.1 97 k (by omega) (by omega), m2.1 98 k (by omega) (by omega), m2.1 99 k (by omega) (by omega)]
          exact hd k (by omega)
      by_cases c2 : ch b n (nx b n (clAt b n (ps b n i))) = 59 ∧ i ≠ 11
      · rw [if_pos c2] at hpa
        have hlt : nx b n (clAt b n (ps b n i)) < n := ch_n (b := b) (by rw [c2.1]; decide)
        refine wp_iload_n (pc := 9) dX12_readAll_9 (by first | rfl | assumption | (repeat first | assumption | rfl | refine aG_n ?_ rfl rfl)) ?_
        refine wp_if_eq (pc := 10) (tgt := 80) dX12_readAll_10 rfl (fun q => absurd q (by decide)) (fun _ => ?_)
        refine wp_aload_n (pc := 13) dX12_readAll_13 (by first | rfl | assumption | (repeat first | assumption | rfl | refine aG_n ?_ rfl rfl)) ?_
        refine wp_iload_n (pc := 14) dX12_readAll_14 (by first | rfl | assumption | (repeat first | assumption | rfl | refine aG_n ?_ rfl rfl)) ?_
        refine wp_cV (pc := 15) dX12_readAll_15 lk_12_185 rfl (by decide) rfl (by first | rfl | assumption | exact sh_house (by omega) | exact sh_wish (by omega) | exact sh_wor (by omega) | exact sh_bar (by omega) | exact sh_term (by omega) | exact sh_sheet (by omega) | exact sh_items (by omega) | exact sh_sums (by omega)) rfl rfl ?_
        refine c_X12_readClause (show i < 12 by omega) hT' hpi hP (fun q => absurd c q) (fun _ μ2 x m2 hx e2 p2 a1 a2 a3 => aK_i ?_)
        refine wp_if_ne (pc := 18) (tgt := 23) dX12_readAll_18 rfl (fun _ => ?_) (fun q => absurd q (by decide))
        refine wp_iinc (pc := 23) dX12_readAll_23 (by decide) (by first | rfl | assumption | (repeat first | assumption | rfl | refine aG_n ?_ rfl rfl)) rfl ?_
        refine wp_aload_n (pc := 26) dX12_readAll_26 (by first | rfl | assumption | (repeat first | assumption | rfl | refine aG_n ?_ rfl rfl)) ?_
        refine wp_cV (pc := 27) dX12_readAll_27 lk_12_167 rfl (by decide) rfl (by first | rfl | assumption | exact sh_house (by omega) | exact sh_wish (by omega) | exact sh_wor (by omega) | exact sh_bar (by omega) | exact sh_term (by omega) | exact sh_sheet (by omega) | exact sh_items (by omega) | exact sh_sums (by omega)) rfl rfl ?_
        refine c_X12_next (TR hT' m2) hx p2 (fun μ3 h3 => ?_)
        rw [e2] at h3 ⊢
        refine aK_i ?_
        refine wp_istore_n (pc := 30) dX12_readAll_30 (by decide) ?_
        refine wp_iload_n (pc := 31) dX12_readAll_31 (by first | rfl | assumption | (repeat first | assumption | rfl | refine aG_n ?_ rfl rfl)) ?_
        refine wp_if_lt (pc := 32) (tgt := 49) dX12_readAll_32 rfl (fun q => absurd q (fun z => by rw [(chI_neg _ hc).mp z] at c2; exact absurd c2.1 (by decide))) (fun _ => ?_)
        refine wp_iload_n (pc := 35) dX12_readAll_35 (by first | rfl | assumption | (repeat first | assumption | rfl | refine aG_n ?_ rfl rfl)) ?_
        refine wp_bipush (pc := 36) (v := 59) dX12_readAll_36 (by decide) ?_
        refine wp_icmp_ne (pc := 38) (tgt := 47) dX12_readAll_38 rfl (fun q => absurd ((chI_59 hc).mpr c2.1) q) (fun _ => ?_)
        refine wp_iload_n (pc := 41) dX12_readAll_41 (by first | rfl | assumption | (repeat first | assumption | rfl | refine aG_n ?_ rfl rfl)) ?_
        refine wp_bipush (pc := 42) (v := 12) dX12_readAll_42 (by decide) ?_
        refine wp_icmp_ne (pc := 44) (tgt := 49) dX12_readAll_44 rfl (fun _ => ?_) (fun q => absurd q (by rw [nI_i1, show (12 : Int32) = nI 12 from rfl, nI_eq (by omega) (by omega)]; omega))
        refine wp_iload_n (pc := 49) dX12_readAll_49 (by first | rfl | assumption | (repeat first | assumption | rfl | refine aG_n ?_ rfl rfl)) ?_
        refine wp_if_lt (pc := 50) (tgt := 57) dX12_readAll_50 rfl (fun q => absurd q (fun z => by rw [(chI_neg _ hc).mp z] at c2; exact absurd c2.1 (by decide))) (fun _ => ?_)
        refine wp_iconst (pc := 53) (v := 1) dX12_readAll_53 (by decide) ?_
        refine wp_goto (pc := 54) (tgt := 58) dX12_readAll_54 rfl ?_
        refine wp_istore_n (pc := 58) dX12_readAll_58 (by decide) ?_
        refine wp_aload_n (pc := 59) dX12_readAll_59 (by first | rfl | assumption | (repeat first | assumption | rfl | refine aG_n ?_ rfl rfl)) ?_
        refine wp_dupr (pc := 60) dX12_readAll_60 ?_
        refine wp_getI (pc := 61) dX12_readAll_61 fl_12_164 (by first | rfl | assumption | exact sh_house (by omega) | exact sh_wish (by omega) | exact sh_wor (by omega) | exact sh_bar (by omega) | exact sh_term (by omega) | exact sh_sheet (by omega) | exact sh_items (by omega) | exact sh_sums (by omega)) rfl ?_
        refine wp_iload_n (pc := 64) dX12_readAll_64 (by first | rfl | assumption | (repeat first | assumption | rfl | refine aG_n ?_ rfl rfl)) ?_
        refine wp_if_eq (pc := 65) (tgt := 72) dX12_readAll_65 rfl (fun q => absurd q (by decide)) (fun _ => ?_)
        refine wp_iconst (pc := 68) (v := 1) dX12_readAll_68 (by decide) ?_
        refine wp_goto (pc := 69) (tgt := 73) dX12_readAll_69 rfl ?_
        refine wp_iadd (pc := 73) dX12_readAll_73 ?_
        refine wp_putI (pc := 74) dX12_readAll_74 fl_12_164 (by first | rfl | assumption | exact sh_house (by omega) | exact sh_wish (by omega) | exact sh_wor (by omega) | exact sh_bar (by omega) | exact sh_term (by omega) | exact sh_sheet (by omega) | exact sh_items (by omega) | exact sh_sums (by omega)) rfl rfl rfl ?_
        refine wp_goto (pc := 77) (tgt := 9) dX12_readAll_77 rfl ?_
        skip
        have hup := h3.up (q := nx b n (clAt b n (ps b n i)) + 1) (v := μ3.1 86 11 + 1) (by rw [h3.2.2, nI_1])
        refine l_all hT k0 k1 f (i + 1) (by omega) (by omega) hpa hlt _ ((hA.mr m2).pl hup) (by exact hup.2.2) (by exact hrd μ2 _ m2 a1 a2 a3 (fun c j h1 h2 => hup.1 c j (by omega))) _ (by first | rfl | assumption | (repeat first | assumption | rfl | refine aG_n ?_ rfl rfl)) (by rw [← nI_i1]; first | rfl | assumption | (repeat first | assumption | rfl | refine aG_n ?_ rfl rfl)) (by first | rfl | assumption | (repeat first | assumption | rfl | refine aG_n ?_ rfl rfl))
      · rw [if_neg c2] at hpa
        by_cases c3 : ch b n (nx b n (clAt b n (ps b n i))) = 0
        · rw [if_pos c3] at hpa
          refine wp_iload_n (pc := 9) dX12_readAll_9 (by first | rfl | assumption | (repeat first | assumption | rfl | refine aG_n ?_ rfl rfl)) ?_
          refine wp_if_eq (pc := 10) (tgt := 80) dX12_readAll_10 rfl (fun q => absurd q (by decide)) (fun _ => ?_)
          refine wp_aload_n (pc := 13) dX12_readAll_13 (by first | rfl | assumption | (repeat first | assumption | rfl | refine aG_n ?_ rfl rfl)) ?_
          refine wp_iload_n (pc := 14) dX12_readAll_14 (by first | rfl | assumption | (repeat first | assumption | rfl | refine aG_n ?_ rfl rfl)) ?_
          refine wp_cV (pc := 15) dX12_readAll_15 lk_12_185 rfl (by decide) rfl (by first | rfl | assumption | exact sh_house (by omega) | exact sh_wish (by omega) | exact sh_wor (by omega) | exact sh_bar (by omega) | exact sh_term (by omega) | exact sh_sheet (by omega) | exact sh_items (by omega) | exact sh_sums (by omega)) rfl rfl ?_
          refine c_X12_readClause (show i < 12 by omega) hT' hpi hP (fun q => absurd c q) (fun _ μ2 x m2 hx e2 p2 a1 a2 a3 => aK_i ?_)
          refine wp_if_ne (pc := 18) (tgt := 23) dX12_readAll_18 rfl (fun _ => ?_) (fun q => absurd q (by decide))
          refine wp_iinc (pc := 23) dX12_readAll_23 (by decide) (by first | rfl | assumption | (repeat first | assumption | rfl | refine aG_n ?_ rfl rfl)) rfl ?_
          refine wp_aload_n (pc := 26) dX12_readAll_26 (by first | rfl | assumption | (repeat first | assumption | rfl | refine aG_n ?_ rfl rfl)) ?_
          refine wp_cV (pc := 27) dX12_readAll_27 lk_12_167 rfl (by decide) rfl (by first | rfl | assumption | exact sh_house (by omega) | exact sh_wish (by omega) | exact sh_wor (by omega) | exact sh_bar (by omega) | exact sh_term (by omega) | exact sh_sheet (by omega) | exact sh_items (by omega) | exact sh_sums (by omega)) rfl rfl ?_
          refine c_X12_next (TR hT' m2) hx p2 (fun μ3 h3 => ?_)
          rw [e2] at h3 ⊢
          refine aK_i ?_
          refine wp_istore_n (pc := 30) dX12_readAll_30 (by decide) ?_
          refine wp_iload_n (pc := 31) dX12_readAll_31 (by first | rfl | assumption | (repeat first | assumption | rfl | refine aG_n ?_ rfl rfl)) ?_
          refine wp_if_lt (pc := 32) (tgt := 49) dX12_readAll_32 rfl (fun _ => ?_) (fun q => absurd ((chI_neg _ hc).mpr c3) q)
          refine wp_iload_n (pc := 49) dX12_readAll_49 (by first | rfl | assumption | (repeat first | assumption | rfl | refine aG_n ?_ rfl rfl)) ?_
          refine wp_if_lt (pc := 50) (tgt := 57) dX12_readAll_50 rfl (fun _ => ?_) (fun q => absurd ((chI_neg _ hc).mpr c3) q)
          refine wp_iconst (pc := 57) (v := 0) dX12_readAll_57 (by decide) ?_
          refine wp_istore_n (pc := 58) dX12_readAll_58 (by decide) ?_
          refine wp_aload_n (pc := 59) dX12_readAll_59 (by first | rfl | assumption | (repeat first | assumption | rfl | refine aG_n ?_ rfl rfl)) ?_
          refine wp_dupr (pc := 60) dX12_readAll_60 ?_
          refine wp_getI (pc := 61) dX12_readAll_61 fl_12_164 (by first | rfl | assumption | exact sh_house (by omega) | exact sh_wish (by omega) | exact sh_wor (by omega) | exact sh_bar (by omega) | exact sh_term (by omega) | exact sh_sheet (by omega) | exact sh_items (by omega) | exact sh_sums (by omega)) rfl ?_
          refine wp_iload_n (pc := 64) dX12_readAll_64 (by first | rfl | assumption | (repeat first | assumption | rfl | refine aG_n ?_ rfl rfl)) ?_
          refine wp_if_eq (pc := 65) (tgt := 72) dX12_readAll_65 rfl (fun _ => ?_) (fun q => absurd q (by decide))
          refine wp_iconst (pc := 72) (v := 0) dX12_readAll_72 (by decide) ?_
          refine wp_iadd (pc := 73) dX12_readAll_73 ?_
          refine wp_putI (pc := 74) dX12_readAll_74 fl_12_164 (by first | rfl | assumption | exact sh_house (by omega) | exact sh_wish (by omega) | exact sh_wor (by omega) | exact sh_bar (by omega) | exact sh_term (by omega) | exact sh_sheet (by omega) | exact sh_items (by omega) | exact sh_sums (by omega)) rfl rfl rfl ?_
          refine wp_goto (pc := 77) (tgt := 9) dX12_readAll_77 rfl ?_
          refine wp_iload_n (pc := 9) dX12_readAll_9 (by first | rfl | assumption | (repeat first | assumption | rfl | refine aG_n ?_ rfl rfl)) ?_
          refine wp_if_eq (pc := 10) (tgt := 80) dX12_readAll_10 rfl (fun _ => ?_) (fun q => absurd q (by decide))
          refine wp_iload_n (pc := 80) dX12_readAll_80 (by first | rfl | assumption | (repeat first | assumption | rfl | refine aG_n ?_ rfl rfl)) ?_
          refine wp_ireturn (pc := 81) dX12_readAll_81 rfl (by first | rfl | decide | assumption) ?_
          skip
          have hup := h3.up (q := nx b n (clAt b n (ps b n i))) (v := μ3.1 86 11 + 0) (by rw [h3.2.2, Int32.add_zero])
          refine qEq (nI_i1 i) (k1 (i + 1) _ (by omega) (by omega) hpa.symm ((hA.mr m2).pl hup) (by exact hrd μ2 _ m2 a1 a2 a3 (fun c j h1 h2 => hup.1 c j (by omega))))
        · rw [if_neg c3] at hpa
          by_cases c4 : ch b n (nx b n (clAt b n (ps b n i))) = 59
          · have i11 : i = 11 := by
              by_cases e : i = 11
              · exact e
              · exact absurd ⟨c4, e⟩ c2
            refine wp_iload_n (pc := 9) dX12_readAll_9 (by first | rfl | assumption | (repeat first | assumption | rfl | refine aG_n ?_ rfl rfl)) ?_
            refine wp_if_eq (pc := 10) (tgt := 80) dX12_readAll_10 rfl (fun q => absurd q (by decide)) (fun _ => ?_)
            refine wp_aload_n (pc := 13) dX12_readAll_13 (by first | rfl | assumption | (repeat first | assumption | rfl | refine aG_n ?_ rfl rfl)) ?_
            refine wp_iload_n (pc := 14) dX12_readAll_14 (by first | rfl | assumption | (repeat first | assumption | rfl | refine aG_n ?_ rfl rfl)) ?_
            refine wp_cV (pc := 15) dX12_readAll_15 lk_12_185 rfl (by decide) rfl (by first | rfl | assumption | exact sh_house (by omega) | exact sh_wish (by omega) | exact sh_wor (by omega) | exact sh_bar (by omega) | exact sh_term (by omega) | exact sh_sheet (by omega) | exact sh_items (by omega) | exact sh_sums (by omega)) rfl rfl ?_
            refine c_X12_readClause (show i < 12 by omega) hT' hpi hP (fun q => absurd c q) (fun _ μ2 x m2 hx e2 p2 a1 a2 a3 => aK_i ?_)
            refine wp_if_ne (pc := 18) (tgt := 23) dX12_readAll_18 rfl (fun _ => ?_) (fun q => absurd q (by decide))
            refine wp_iinc (pc := 23) dX12_readAll_23 (by decide) (by first | rfl | assumption | (repeat first | assumption | rfl | refine aG_n ?_ rfl rfl)) rfl ?_
            refine wp_aload_n (pc := 26) dX12_readAll_26 (by first | rfl | assumption | (repeat first | assumption | rfl | refine aG_n ?_ rfl rfl)) ?_
            refine wp_cV (pc := 27) dX12_readAll_27 lk_12_167 rfl (by decide) rfl (by first | rfl | assumption | exact sh_house (by omega) | exact sh_wish (by omega) | exact sh_wor (by omega) | exact sh_bar (by omega) | exact sh_term (by omega) | exact sh_sheet (by omega) | exact sh_items (by omega) | exact sh_sums (by omega)) rfl rfl ?_
            refine c_X12_next (TR hT' m2) hx p2 (fun μ3 h3 => ?_)
            rw [e2] at h3 ⊢
            refine aK_i ?_
            refine wp_istore_n (pc := 30) dX12_readAll_30 (by decide) ?_
            refine wp_iload_n (pc := 31) dX12_readAll_31 (by first | rfl | assumption | (repeat first | assumption | rfl | refine aG_n ?_ rfl rfl)) ?_
            refine wp_if_lt (pc := 32) (tgt := 49) dX12_readAll_32 rfl (fun q => absurd q (fun z => c3 ((chI_neg _ hc).mp z))) (fun _ => ?_)
            refine wp_iload_n (pc := 35) dX12_readAll_35 (by first | rfl | assumption | (repeat first | assumption | rfl | refine aG_n ?_ rfl rfl)) ?_
            refine wp_bipush (pc := 36) (v := 59) dX12_readAll_36 (by decide) ?_
            refine wp_icmp_ne (pc := 38) (tgt := 47) dX12_readAll_38 rfl (fun q => absurd ((chI_59 hc).mpr c4) q) (fun _ => ?_)
            refine wp_iload_n (pc := 41) dX12_readAll_41 (by first | rfl | assumption | (repeat first | assumption | rfl | refine aG_n ?_ rfl rfl)) ?_
            refine wp_bipush (pc := 42) (v := 12) dX12_readAll_42 (by decide) ?_
            refine wp_icmp_ne (pc := 44) (tgt := 49) dX12_readAll_44 rfl (fun q => absurd (by rw [i11]; rfl) q) (fun _ => ?_)
            refine wp_iconst (pc := 47) (v := -1) dX12_readAll_47 (by decide) ?_
            refine wp_ireturn (pc := 48) dX12_readAll_48 rfl (by first | rfl | decide | assumption) ?_
            exact k0 _ _ hxx hpa.symm ((hA.mr m2).pl h3) h3.2.2
          · refine wp_iload_n (pc := 9) dX12_readAll_9 (by first | rfl | assumption | (repeat first | assumption | rfl | refine aG_n ?_ rfl rfl)) ?_
            refine wp_if_eq (pc := 10) (tgt := 80) dX12_readAll_10 rfl (fun q => absurd q (by decide)) (fun _ => ?_)
            refine wp_aload_n (pc := 13) dX12_readAll_13 (by first | rfl | assumption | (repeat first | assumption | rfl | refine aG_n ?_ rfl rfl)) ?_
            refine wp_iload_n (pc := 14) dX12_readAll_14 (by first | rfl | assumption | (repeat first | assumption | rfl | refine aG_n ?_ rfl rfl)) ?_
            refine wp_cV (pc := 15) dX12_readAll_15 lk_12_185 rfl (by decide) rfl (by first | rfl | assumption | exact sh_house (by omega) | exact sh_wish (by omega) | exact sh_wor (by omega) | exact sh_bar (by omega) | exact sh_term (by omega) | exact sh_sheet (by omega) | exact sh_items (by omega) | exact sh_sums (by omega)) rfl rfl ?_
            refine c_X12_readClause (show i < 12 by omega) hT' hpi hP (fun q => absurd c q) (fun _ μ2 x m2 hx e2 p2 a1 a2 a3 => aK_i ?_)
            refine wp_if_ne (pc := 18) (tgt := 23) dX12_readAll_18 rfl (fun _ => ?_) (fun q => absurd q (by decide))
            refine wp_iinc (pc := 23) dX12_readAll_23 (by decide) (by first | rfl | assumption | (repeat first | assumption | rfl | refine aG_n ?_ rfl rfl)) rfl ?_
            refine wp_aload_n (pc := 26) dX12_readAll_26 (by first | rfl | assumption | (repeat first | assumption | rfl | refine aG_n ?_ rfl rfl)) ?_
            refine wp_cV (pc := 27) dX12_readAll_27 lk_12_167 rfl (by decide) rfl (by first | rfl | assumption | exact sh_house (by omega) | exact sh_wish (by omega) | exact sh_wor (by omega) | exact sh_bar (by omega) | exact sh_term (by omega) | exact sh_sheet (by omega) | exact sh_items (by omega) | exact sh_sums (by omega)) rfl rfl ?_
            refine c_X12_next (TR hT' m2) hx p2 (fun μ3 h3 => ?_)
            rw [e2] at h3 ⊢
            refine aK_i ?_
            refine wp_istore_n (pc := 30) dX12_readAll_30 (by decide) ?_
            refine wp_iload_n (pc := 31) dX12_readAll_31 (by first | rfl | assumption | (repeat first | assumption | rfl | refine aG_n ?_ rfl rfl)) ?_
            refine wp_if_lt (pc := 32) (tgt := 49) dX12_readAll_32 rfl (fun q => absurd q (fun z => c3 ((chI_neg _ hc).mp z))) (fun _ => ?_)
            refine wp_iload_n (pc := 35) dX12_readAll_35 (by first | rfl | assumption | (repeat first | assumption | rfl | refine aG_n ?_ rfl rfl)) ?_
            refine wp_bipush (pc := 36) (v := 59) dX12_readAll_36 (by decide) ?_
            refine wp_icmp_ne (pc := 38) (tgt := 47) dX12_readAll_38 rfl (fun _ => ?_) (fun q => absurd q (fun z => c4 ((chI_59 hc).mp z)))
            refine wp_iconst (pc := 47) (v := -1) dX12_readAll_47 (by decide) ?_
            refine wp_ireturn (pc := 48) dX12_readAll_48 rfl (by first | rfl | decide | assumption) ?_
            exact k0 _ _ hxx hpa.symm ((hA.mr m2).pl h3) h3.2.2
    · rw [if_neg c] at hpa
      have hcf : clF b n (ps b n i) ≤ n := by
        unfold clF
        split
        · exact cL_le hT.2.1 hpi
        · exact nQ_le (cL_le hT.2.1 hpi)
      refine wp_iload_n (pc := 9) dX12_readAll_9 (by first | rfl | assumption | (repeat first | assumption | rfl | refine aG_n ?_ rfl rfl)) ?_
      refine wp_if_eq (pc := 10) (tgt := 80) dX12_readAll_10 rfl (fun q => absurd q (by decide)) (fun _ => ?_)
      refine wp_aload_n (pc := 13) dX12_readAll_13 (by first | rfl | assumption | (repeat first | assumption | rfl | refine aG_n ?_ rfl rfl)) ?_
      refine wp_iload_n (pc := 14) dX12_readAll_14 (by first | rfl | assumption | (repeat first | assumption | rfl | refine aG_n ?_ rfl rfl)) ?_
      refine wp_cV (pc := 15) dX12_readAll_15 lk_12_185 rfl (by decide) rfl (by first | rfl | assumption | exact sh_house (by omega) | exact sh_wish (by omega) | exact sh_wor (by omega) | exact sh_bar (by omega) | exact sh_term (by omega) | exact sh_sheet (by omega) | exact sh_items (by omega) | exact sh_sums (by omega)) rfl rfl ?_
      refine c_X12_readClause (show i < 12 by omega) hT' hpi hP (fun _ μ2 m2 p2 => aK_i ?_) (fun q => absurd q c)
      refine wp_if_ne (pc := 18) (tgt := 23) dX12_readAll_18 rfl (fun q => absurd rfl q) (fun _ => ?_)
      refine wp_iconst (pc := 21) (v := -1) dX12_readAll_21 (by decide) ?_
      refine wp_ireturn (pc := 22) dX12_readAll_22 rfl (by first | rfl | decide | assumption) ?_
      exact k0 _ _ hcf hpa.symm (hA.mr m2) p2
theorem c_X12_readAll (hT : TG μ.1 86 10 96 b n) (k0 : ∀ q μ', q ≤ n → pa b n 12 0 = -20 - nI q → MA μ μ' → μ'.1 86 11 = nI q → Q (some (.int (-1))) μ') (k1 : ∀ m μ', 1 ≤ m → m ≤ 12 → pa b n 12 0 = nI m → MA μ μ' → rdP μ'.1 b n m → Q (some (.int (nI m))) μ') : WP X mX12_readAll 0 (lv_args 0 [.ref 86]) [] μ Q := by
  refine wp_aload_n (pc := 0) dX12_readAll_0 (by first | rfl | assumption | (repeat first | assumption | rfl | refine aG_n ?_ rfl rfl)) ?_
  refine wp_iconst (pc := 1) (v := 0) dX12_readAll_1 (by decide) ?_
  refine wp_putI (pc := 2) dX12_readAll_2 fl_12_164 (by first | rfl | assumption | exact sh_house (by omega) | exact sh_wish (by omega) | exact sh_wor (by omega) | exact sh_bar (by omega) | exact sh_term (by omega) | exact sh_sheet (by omega) | exact sh_items (by omega) | exact sh_sums (by omega)) rfl rfl rfl ?_
  refine wp_iconst (pc := 5) (v := 0) dX12_readAll_5 (by decide) ?_
  refine wp_istore_n (pc := 6) dX12_readAll_6 (by decide) ?_
  refine wp_iconst (pc := 7) (v := 1) dX12_readAll_7 (by decide) ?_
  refine wp_istore_n (pc := 8) dX12_readAll_8 (by decide) ?_
  exact l_all hT k0 k1 12 0 (by omega) (by omega) rfl (Nat.zero_le _) (up2 μ.1 86 11 0, μ.2) ⟨fun c j h1 h2 => up2_p h1, rfl⟩ (by dsimp only; exact up2_at) (fun k hk => absurd hk (by omega)) _ (by first | rfl | assumption | (repeat first | assumption | rfl | refine aG_n ?_ rfl rfl)) (by first | rfl | assumption | (repeat first | assumption | rfl | refine aG_n ?_ rfl rfl)) (by first | rfl | assumption | (repeat first | assumption | rfl | refine aG_n ?_ rfl rfl))
/-- clauses that were read are kept -/
theorem l_keep {i m : Nat} (hi : i < 4) (hm : m ≤ 12) (h99 : ∀ q, q < m → μ.1 99 q = 0 ∨ μ.1 99 q = 1) (k : ∀ μ' : Mm, KC μ.1 μ'.1 i m (μ.1 97) (μ.1 98) (μ.1 99) → μ'.2 = μ.2 → Q (some (.int (nI m))) μ') : ∀ (f t : Nat), t + f = m → ∀ μ' : Mm, KC μ.1 μ'.1 i t (μ.1 97) (μ.1 98) (μ.1 99) → μ'.2 = μ.2 → ∀ L : aL, aL_get L 0 = some (.ref 86) → aL_get L 1 = some (.int (nI i)) → aL_get L 2 = some (.int (nI m)) → aL_get L 3 = some (.int (nI t)) → WP X mX12_wish 48 L [] μ' Q
  | 0, t, ht, μ', hK, hr, L, g0, g1, g2, g3 => by
    obtain rfl : t = m := by omega
    refine wp_iload_n (pc := 48) dX12_wish_48 (by first | rfl | assumption | (repeat first | assumption | rfl | refine aG_n ?_ rfl rfl)) ?_
    refine wp_iload_n (pc := 49) dX12_wish_49 (by first | rfl | assumption | (repeat first | assumption | rfl | refine aG_n ?_ rfl rfl)) ?_
    refine wp_icmp_ge (pc := 50) (tgt := 83) dX12_wish_50 rfl (fun _ => ?_) (fun q => absurd (nI_le (by omega) (by omega)) q)
    refine wp_iload_n (pc := 83) dX12_wish_83 (by first | rfl | assumption | (repeat first | assumption | rfl | refine aG_n ?_ rfl rfl)) ?_
    refine wp_ireturn (pc := 84) dX12_wish_84 rfl (by first | rfl | decide | assumption) ?_
    exact k _ hK hr
  | f + 1, t, ht, μ', hK, hr, L, g0, g1, g2, g3 => by
    have ct : (nI t).toNatClampNeg = t := nI_clamp (by omega)
    have e97 : μ'.1 97 = μ.1 97 := hK.1 97 (by omega)
    have e98 : μ'.1 98 = μ.1 98 := hK.1 98 (by omega)
    have e99 : μ'.1 99 = μ.1 99 := hK.1 99 (by omega)
    refine wp_iload_n (pc := 48) dX12_wish_48 (by first | rfl | assumption | (repeat first | assumption | rfl | refine aG_n ?_ rfl rfl)) ?_
    refine wp_iload_n (pc := 49) dX12_wish_49 (by first | rfl | assumption | (repeat first | assumption | rfl | refine aG_n ?_ rfl rfl)) ?_
    refine wp_icmp_ge (pc := 50) (tgt := 83) dX12_wish_50 rfl (fun q => absurd q (nI_ge (by omega) (by omega))) (fun _ => ?_)
    refine wp_aload_n (pc := 53) dX12_wish_53 (by first | rfl | assumption | (repeat first | assumption | rfl | refine aG_n ?_ rfl rfl)) ?_
    refine wp_iload_n (pc := 54) dX12_wish_54 (by first | rfl | assumption | (repeat first | assumption | rfl | refine aG_n ?_ rfl rfl)) ?_
    refine wp_iload_n (pc := 55) dX12_wish_55 (by first | rfl | assumption | (repeat first | assumption | rfl | refine aG_n ?_ rfl rfl)) ?_
    refine wp_aload_n (pc := 56) dX12_wish_56 (by first | rfl | assumption | (repeat first | assumption | rfl | refine aG_n ?_ rfl rfl)) ?_
    refine wp_getR (pc := 57) dX12_wish_57 fl_12_41 (by first | rfl | assumption | exact sh_house (by omega) | exact sh_wish (by omega) | exact sh_wor (by omega) | exact sh_bar (by omega) | exact sh_term (by omega) | exact sh_sheet (by omega) | exact sh_items (by omega) | exact sh_sums (by omega)) rfl ?_
    refine wp_iload_n (pc := 60) dX12_wish_60 (by first | rfl | assumption | (repeat first | assumption | rfl | refine aG_n ?_ rfl rfl)) ?_
    refine wp_iald (pc := 61) dX12_wish_61 (by first | rfl | assumption | exact sh_house (by omega) | exact sh_wish (by omega) | exact sh_wor (by omega) | exact sh_bar (by omega) | exact sh_term (by omega) | exact sh_sheet (by omega) | exact sh_items (by omega) | exact sh_sums (by omega)) (vp_in_nI (by omega) (by decide)) ?_
    refine wp_aload_n (pc := 62) dX12_wish_62 (by first | rfl | assumption | (repeat first | assumption | rfl | refine aG_n ?_ rfl rfl)) ?_
    refine wp_getR (pc := 63) dX12_wish_63 fl_12_44 (by first | rfl | assumption | exact sh_house (by omega) | exact sh_wish (by omega) | exact sh_wor (by omega) | exact sh_bar (by omega) | exact sh_term (by omega) | exact sh_sheet (by omega) | exact sh_items (by omega) | exact sh_sums (by omega)) rfl ?_
    refine wp_iload_n (pc := 66) dX12_wish_66 (by first | rfl | assumption | (repeat first | assumption | rfl | refine aG_n ?_ rfl rfl)) ?_
    refine wp_iald (pc := 67) dX12_wish_67 (by first | rfl | assumption | exact sh_house (by omega) | exact sh_wish (by omega) | exact sh_wor (by omega) | exact sh_bar (by omega) | exact sh_term (by omega) | exact sh_sheet (by omega) | exact sh_items (by omega) | exact sh_sums (by omega)) (vp_in_nI (by omega) (by decide)) ?_
    refine wp_aload_n (pc := 68) dX12_wish_68 (by first | rfl | assumption | (repeat first | assumption | rfl | refine aG_n ?_ rfl rfl)) ?_
    refine wp_getR (pc := 69) dX12_wish_69 fl_12_47 (by first | rfl | assumption | exact sh_house (by omega) | exact sh_wish (by omega) | exact sh_wor (by omega) | exact sh_bar (by omega) | exact sh_term (by omega) | exact sh_sheet (by omega) | exact sh_items (by omega) | exact sh_sums (by omega)) rfl ?_
    refine wp_iload_n (pc := 72) dX12_wish_72 (by first | rfl | assumption | (repeat first | assumption | rfl | refine aG_n ?_ rfl rfl)) ?_
    refine wp_zald (pc := 73) dX12_wish_73 (by first | rfl | assumption | exact sh_house (by omega) | exact sh_wish (by omega) | exact sh_wor (by omega) | exact sh_bar (by omega) | exact sh_term (by omega) | exact sh_sheet (by omega) | exact sh_items (by omega) | exact sh_sums (by omega)) (vp_in_nI (by omega) (by decide)) ?_
    refine wp_cV (pc := 74) dX12_wish_74 lk_12_191 rfl (by decide) rfl (by first | rfl | assumption | exact sh_house (by omega) | exact sh_wish (by omega) | exact sh_wor (by omega) | exact sh_bar (by omega) | exact sh_term (by omega) | exact sh_sheet (by omega) | exact sh_items (by omega) | exact sh_sums (by omega)) rfl rfl ?_
    rw [ct, e97, e98, e99]
    refine c_X12_keepClause hi (by omega) (h99 t (by omega)) (aK_v ?_)
    refine wp_iinc (pc := 77) dX12_wish_77 (by decide) (by first | rfl | assumption | (repeat first | assumption | rfl | refine aG_n ?_ rfl rfl)) rfl ?_
    refine wp_goto (pc := 80) (tgt := 48) dX12_wish_80 rfl ?_
    exact l_keep hi hm h99 k f (t + 1) (by omega) _ (by exact KC_s (by omega) hK) (by exact hr) _ (by first | rfl | assumption | (repeat first | assumption | rfl | refine aG_n ?_ rfl rfl)) (by first | rfl | assumption | (repeat first | assumption | rfl | refine aG_n ?_ rfl rfl)) (by first | rfl | assumption | (repeat first | assumption | rfl | refine aG_n ?_ rfl rfl)) (by rw [← nI_i1]; first | rfl | assumption | (repeat first | assumption | rfl | refine aG_n ?_ rfl rfl))
end ALL
theorem cv_in : ∀ v, v < 100 → ((-99 ≤ (nI v).toInt ∧ (nI v).toInt ≤ 99) ∧ (-99 ≤ (-(nI v)).toInt ∧ (-(nI v)).toInt ≤ 99)) := by decide +kernel
theorem cV_in {b : Nat → Nat} {n k : Nat} (h : clOk b n (ps b n k)) : inR (cV b n k) (-99) 99 := by
  unfold cV clV
  by_cases c : cBr b n (ps b n k) = true
  · rw [if_pos c]; unfold inR; decide
  · rw [if_neg c]
    have h9 := (h.2.resolve_left c).2
    obtain ⟨a1, a2⟩ := cv_in _ (Nat.lt_of_le_of_lt h9 (by decide : 99 < 100))
    unfold nV
    split
    · exact a2
    · exact a1
theorem wD_F {M : MM} {b : Nat → Nat} {n i s : Nat} (hs : s < 64) (h64 : ∀ k, k < 12 → cS b n k < 64 ∨ True) : ∀ m, (∀ k, k < m → cS b n k < 64 ∧ M 93 (12 * i + k) = nI (cS b n k) ∧ M 94 (12 * i + k) = cV b n k ∧ M 95 (12 * i + k) = b2i (cX b n k)) → wF M i (nI s) m = wD b n s m ∧ bF M i (nI s) m = bD b n s m
  | 0, _ => ⟨rfl, rfl⟩
  | m + 1, h => by
    obtain ⟨i1, i2⟩ := wD_F hs h64 m (fun k hk => h k (by omega))
    obtain ⟨h1, h2, h3, h4⟩ := h m (by omega)
    have e := sub_i (cS b n m) h1 s hs
    constructor
    · unfold wF wD
      rw [i1, h2, h3]
      by_cases c : cS b n m &&& s = cS b n m
      · rw [if_pos c, if_pos (e.mpr c)]
      · rw [if_neg c, if_neg (fun z => c (e.mp z))]
    · unfold bF bD
      rw [i2, h2, h4]
      have e1 : decide (b2i (cX b n m) ≠ 0) = cX b n m := by
        cases cX b n m <;> decide
      rw [e1]
      congr 2
      exact decide_eq_decide.mpr e
theorem i_le0 {x : Int32} (h : x < 0) : x ≤ 0 := by rw [i_lt] at h; rw [i_le]; omega
theorem flt_neb : ∀ q, q < 91 → ∀ m, m < 13 → ¬ (-20 : Int32) - nI q = nI m := by decide +kernel
theorem flt_ne {q m : Nat} (h : q ≤ 90 ∧ m ≤ 12) : ¬ (-20 : Int32) - nI q = nI m := flt_neb q (by omega) m (by omega)
theorem b2_01 (x : Bool) : b2i x = 0 ∨ b2i x = 1 := by cases x <;> simp [b2i]
theorem J_wish (h : Int32) : Jnt mX11_wish mX12_wish [.int h] := by
  intro X μ Q hI k
  by_cases c1 : inR h 0 3
  · by_cases c4 : μ.1 73 0 = 1
    · have c5 : μ.1 86 15 = 1 := hI.2.2.2.2.2.1.1 ▸ c4
      refine wp_iload_n (pc := 0) dX11_wish_0 (by first | rfl | assumption | (repeat first | assumption | rfl | refine aG_n ?_ rfl rfl)) ?_
      refine wp_cS (pc := 1) dX11_wish_1 lk_11_101 rfl rfl rfl (c_X11_isHouse (fun _ => aK_i ?_) (fun q => absurd c1 q))
      refine wp_if_ne (pc := 4) (tgt := 9) dX11_wish_4 rfl (fun _ => ?_) (fun q => absurd q (by decide))
      refine wp_aload_n (pc := 9) dX11_wish_9 (by first | rfl | assumption | (repeat first | assumption | rfl | refine aG_n ?_ rfl rfl)) ?_
      refine wp_getR (pc := 10) dX11_wish_10 fl_11_92 (by first | rfl | assumption | exact sh_house (by omega) | exact sh_wish (by omega) | exact sh_wor (by omega) | exact sh_bar (by omega) | exact sh_term (by omega) | exact sh_sheet (by omega) | exact sh_items (by omega) | exact sh_sums (by omega)) rfl ?_
      refine wp_cV (pc := 13) dX11_wish_13 lk_11_104 rfl (by decide) rfl (by first | rfl | assumption | exact sh_house (by omega) | exact sh_wish (by omega) | exact sh_wor (by omega) | exact sh_bar (by omega) | exact sh_term (by omega) | exact sh_sheet (by omega) | exact sh_items (by omega) | exact sh_sums (by omega)) rfl rfl (c_X7_isOpen (fun _ => aK_i ?_) (fun q => absurd c4 q))
      refine wp_if_eq (pc := 16) (tgt := 22) dX11_wish_16 rfl (fun q => absurd q (by decide)) (fun _ => ?_)
      refine wp_bipush (pc := 19) (v := -2) dX11_wish_19 (by decide) ?_
      refine wp_ireturn (pc := 21) dX11_wish_21 rfl (by first | rfl | decide | assumption) ?_
      refine k _ _ (fun Q' k' => ?_)
      refine wp_iload_n (pc := 0) dX12_wish_0 (by first | rfl | assumption | (repeat first | assumption | rfl | refine aG_n ?_ rfl rfl)) ?_
      refine wp_cS (pc := 1) dX12_wish_1 lk_12_143 rfl rfl rfl (c_X12_isHouse (fun _ => aK_i ?_) (fun q => absurd c1 q))
      refine wp_if_ne (pc := 4) (tgt := 9) dX12_wish_4 rfl (fun _ => ?_) (fun q => absurd q (by decide))
      refine wp_aload_n (pc := 9) dX12_wish_9 (by first | rfl | assumption | (repeat first | assumption | rfl | refine aG_n ?_ rfl rfl)) ?_
      refine wp_cV (pc := 10) dX12_wish_10 lk_12_147 rfl (by decide) rfl (by first | rfl | assumption | exact sh_house (by omega) | exact sh_wish (by omega) | exact sh_wor (by omega) | exact sh_bar (by omega) | exact sh_term (by omega) | exact sh_sheet (by omega) | exact sh_items (by omega) | exact sh_sums (by omega)) rfl rfl (c_X12_isTalking (fun _ => aK_i ?_) (fun q => absurd c5 q))
      refine wp_if_eq (pc := 13) (tgt := 19) dX12_wish_13 rfl (fun q => absurd q (by decide)) (fun _ => ?_)
      refine wp_bipush (pc := 16) (v := -2) dX12_wish_16 (by decide) ?_
      refine wp_ireturn (pc := 18) dX12_wish_18 rfl (by first | rfl | decide | assumption) ?_
      exact k' _ hI
    · have c5 : ¬ μ.1 86 15 = 1 := fun z => c4 (hI.2.2.2.2.2.1.1.trans z)
      obtain ⟨i, hi, rfl⟩ := inR_of (n := 3) c1
      obtain ⟨n, hn, t1, t2, t3⟩ := hI.2.2.2.2.1
      obtain ⟨st, hst, s11, -⟩ := hI.2.2.2.2.2.2.2.2.2
      have hbt : ∀ j, j < n → μ.1 96 j = nI (μ.1 96 j).toNatClampNeg ∧ 32 ≤ (μ.1 96 j).toNatClampNeg ∧ (μ.1 96 j).toNatClampNeg ≤ 126 := by
        intro j hj
        have hr := (t3 j (by omega)).2 hj
        obtain ⟨x, hx, ex⟩ := inR_of (v := μ.1 96 j) (n := 126) ⟨by have := hr.1; omega, hr.2⟩
        rw [ex, nI_clamp (by omega)]
        refine ⟨rfl, ?_, hx⟩
        have h1 := hr.1
        rw [ex, nI_toInt (by omega)] at h1
        omega
      obtain ⟨b, hb⟩ : ∃ b : Nat → Nat, ∀ j, b j = (μ.1 96 j).toNatClampNeg := ⟨_, fun _ => rfl⟩
      have hTm : TG μ.1 86 10 96 b n := ⟨hn, fun j hj => by rw [hb]; exact (hbt j hj).2, t2, fun j hj => by rw [hb]; exact (hbt j hj).1⟩
      have hTc : TG μ.1 2 1 3 b n := ⟨hn, hTm.2.1, t1, fun j hj => (t3 j (by omega)).1.trans (hTm.2.2.2 j hj)⟩
      refine wp_iload_n (pc := 0) dX11_wish_0 (by first | rfl | assumption | (repeat first | assumption | rfl | refine aG_n ?_ rfl rfl)) ?_
      refine wp_cS (pc := 1) dX11_wish_1 lk_11_101 rfl rfl rfl (c_X11_isHouse (fun _ => aK_i ?_) (fun q => absurd c1 q))
      refine wp_if_ne (pc := 4) (tgt := 9) dX11_wish_4 rfl (fun _ => ?_) (fun q => absurd q (by decide))
      refine wp_aload_n (pc := 9) dX11_wish_9 (by first | rfl | assumption | (repeat first | assumption | rfl | refine aG_n ?_ rfl rfl)) ?_
      refine wp_getR (pc := 10) dX11_wish_10 fl_11_92 (by first | rfl | assumption | exact sh_house (by omega) | exact sh_wish (by omega) | exact sh_wor (by omega) | exact sh_bar (by omega) | exact sh_term (by omega) | exact sh_sheet (by omega) | exact sh_items (by omega) | exact sh_sums (by omega)) rfl ?_
      refine wp_cV (pc := 13) dX11_wish_13 lk_11_104 rfl (by decide) rfl (by first | rfl | assumption | exact sh_house (by omega) | exact sh_wish (by omega) | exact sh_wor (by omega) | exact sh_bar (by omega) | exact sh_term (by omega) | exact sh_sheet (by omega) | exact sh_items (by omega) | exact sh_sums (by omega)) rfl rfl (c_X7_isOpen (fun q => absurd q c4) (fun _ => aK_i ?_))
      refine wp_if_eq (pc := 16) (tgt := 22) dX11_wish_16 rfl (fun _ => ?_) (fun q => absurd q (by decide))
      refine wp_aload_n (pc := 22) dX11_wish_22 (by first | rfl | assumption | (repeat first | assumption | rfl | refine aG_n ?_ rfl rfl)) ?_
      refine wp_getR (pc := 23) dX11_wish_23 fl_11_18 (by first | rfl | assumption | exact sh_house (by omega) | exact sh_wish (by omega) | exact sh_wor (by omega) | exact sh_bar (by omega) | exact sh_term (by omega) | exact sh_sheet (by omega) | exact sh_items (by omega) | exact sh_sums (by omega)) rfl ?_
      refine wp_aload_n (pc := 26) dX11_wish_26 (by first | rfl | assumption | (repeat first | assumption | rfl | refine aG_n ?_ rfl rfl)) ?_
      refine wp_getR (pc := 27) dX11_wish_27 fl_11_25 (by first | rfl | assumption | exact sh_house (by omega) | exact sh_wish (by omega) | exact sh_wor (by omega) | exact sh_bar (by omega) | exact sh_term (by omega) | exact sh_sheet (by omega) | exact sh_items (by omega) | exact sh_sums (by omega)) rfl ?_
      refine wp_cV (pc := 30) dX11_wish_30 lk_11_123 rfl (by decide) rfl (by first | rfl | assumption | exact sh_house (by omega) | exact sh_wish (by omega) | exact sh_wor (by omega) | exact sh_bar (by omega) | exact sh_term (by omega) | exact sh_sheet (by omega) | exact sh_items (by omega) | exact sh_sums (by omega)) rfl rfl ?_
      refine c_X8_readInto hTc (fun q μ1 hq hpa o1 r1 z1 => aK_i ?_) (fun m μ1 hm1 hm2 hpa hok o1 r1 z1 df => aK_i ?_)
      skip
      · -- a FAULT
        have fin : ∀ μ2 : Mm, (∀ c j, ¬ (c = 86 ∧ (j = 10 ∨ j = 11)) → ¬ (97 ≤ c ∧ c ≤ 99) → μ2.1 c j = μ1.1 c j) → μ2.2 = μ1.2 → μ2.1 86 10 = 0 → Inv μ2 := by
          intro μ2 o2 r2 z2
          have oo : ∀ c j, ¬ scr c j → ¬ ((c = 2 ∧ j = 1) ∨ (c = 86 ∧ j = 10)) → μ2.1 c j = μ.1 c j := fun c j h1 h2 => by
            unfold scr at h1
            rw [o2 c j (by omega) (by omega), o1 c j (by omega) (by omega)]
          have hr : ∀ c : Nat, ¬ ((4 ≤ c ∧ c ≤ 10) ∨ c = 29 ∨ c = 30 ∨ c = 33 ∨ c = 71 ∨ c = 72 ∨ (97 ≤ c ∧ c ≤ 99) ∨ (103 ≤ c ∧ c ≤ 110) ∨ (120 ≤ c ∧ c ≤ 122) ∨ c = 86 ∨ c = 2) → μ2.1 c = μ.1 c := fun c hc => funext fun j => oo c j (by unfold scr; omega) (by omega)
          have h86 : ∀ j, ¬ (j = 11 ∨ j = 29 ∨ j = 31 ∨ j = 10) → μ2.1 86 j = μ.1 86 j := fun j hj => oo 86 j (by unfold scr; omega) (by omega)
          obtain ⟨i1, i2, i3, i4, i5, i6, i7, i8, i9, i10⟩ := hI
          refine ⟨own_c (hr _ (by omega)) (fun q hq => congrFun (hr _ (by omega)) 0) i1, coin_c (hr _ (by omega)) (fun q hq => congrFun (hr _ (by omega)) 1) i2, lev_c ⟨hr _ (by omega), hr _ (by omega), hr _ (by omega)⟩ (fun q hq => ⟨congrFun (hr _ (by omega)) 2, congrFun (hr _ (by omega)) 3, congrFun (hr _ (by omega)) 4⟩) i3, wish_c ⟨hr _ (by omega), hr _ (by omega), hr _ (by omega), hr _ (by omega)⟩ (fun q hq => ⟨hr _ (by omega), hr _ (by omega), hr _ (by omega)⟩) i4, ⟨0, by omega, ?_, z2, fun j hj => ⟨?_, fun z => absurd z (by omega)⟩⟩, talk_c ⟨hr _ (by omega), hr _ (by omega), hr _ (by omega), hr _ (by omega), hr _ (by omega)⟩ ⟨hr _ (by omega), hr _ (by omega), hr _ (by omega)⟩ (fun j a b => h86 _ (by omega)) (fun _ => ⟨hr _ (by omega), hr _ (by omega)⟩) (by rw [r2, r1]) i6, led_c (congrFun (hr _ (by omega)) 2) (h86 _ (by omega)) (fun q hq => hr _ (by omega)) (fun c a b => hr _ (by omega)) ⟨hr _ (by omega), hr _ (by omega)⟩ i7, row_c (hr _ (by omega)) (hr _ (by omega)) i8, sheet_c ⟨hr _ (by omega), hr _ (by omega), hr _ (by omega)⟩ (fun q hq => ⟨hr _ (by omega), hr _ (by omega)⟩) i9, grp_c (congrFun (hr _ (by omega)) 1) (fun g hg => hr _ (by omega)) (fun i hi => ⟨hr _ (by omega), hr _ (by omega)⟩) i10⟩
          · rw [o2 2 1 (by omega) (by omega)]; exact z1
          · rw [hr 3 (by omega), hr 96 (by omega)]; exact (t3 j hj).1
        have hT1 : TG μ1.1 86 10 96 b n := hTm.c (o1 86 10 (by omega) (by omega)) (fun j => o1 96 j (by omega) (by omega))
        have hle : (-20 : Int32) - nI q ≤ 0 := i_le0 (flt_neg q (by omega))
        refine wp_istore_n (pc := 33) dX11_wish_33 (by decide) ?_
        refine wp_iload_n (pc := 34) dX11_wish_34 (by first | rfl | assumption | (repeat first | assumption | rfl | refine aG_n ?_ rfl rfl)) ?_
        refine wp_if_le (pc := 35) (tgt := 62) dX11_wish_35 rfl (fun _ => ?_) (fun q => absurd hle q)
        refine wp_iload_n (pc := 62) dX11_wish_62 (by first | rfl | assumption | (repeat first | assumption | rfl | refine aG_n ?_ rfl rfl)) ?_
        refine wp_ireturn (pc := 63) dX11_wish_63 rfl (by first | rfl | decide | assumption) ?_
        refine k _ _ (fun Q' k' => ?_)
        refine wp_iload_n (pc := 0) dX12_wish_0 (by first | rfl | assumption | (repeat first | assumption | rfl | refine aG_n ?_ rfl rfl)) ?_
        refine wp_cS (pc := 1) dX12_wish_1 lk_12_143 rfl rfl rfl (c_X12_isHouse (fun _ => aK_i ?_) (fun q => absurd c1 q))
        refine wp_if_ne (pc := 4) (tgt := 9) dX12_wish_4 rfl (fun _ => ?_) (fun q => absurd q (by decide))
        refine wp_aload_n (pc := 9) dX12_wish_9 (by first | rfl | assumption | (repeat first | assumption | rfl | refine aG_n ?_ rfl rfl)) ?_
        refine wp_cV (pc := 10) dX12_wish_10 lk_12_147 rfl (by decide) rfl (by first | rfl | assumption | exact sh_house (by omega) | exact sh_wish (by omega) | exact sh_wor (by omega) | exact sh_bar (by omega) | exact sh_term (by omega) | exact sh_sheet (by omega) | exact sh_items (by omega) | exact sh_sums (by omega)) rfl rfl (c_X12_isTalking (fun q => absurd q (by rw [o1 86 15 (by omega) (by omega)]; exact c5)) (fun _ => aK_i ?_))
        refine wp_if_eq (pc := 13) (tgt := 19) dX12_wish_13 rfl (fun _ => ?_) (fun q => absurd q (by decide))
        refine wp_aload_n (pc := 19) dX12_wish_19 (by first | rfl | assumption | (repeat first | assumption | rfl | refine aG_n ?_ rfl rfl)) ?_
        refine wp_cV (pc := 20) dX12_wish_20 lk_12_188 rfl (by decide) rfl (by first | rfl | assumption | exact sh_house (by omega) | exact sh_wish (by omega) | exact sh_wor (by omega) | exact sh_bar (by omega) | exact sh_term (by omega) | exact sh_sheet (by omega) | exact sh_items (by omega) | exact sh_sums (by omega)) rfl rfl ?_
        refine c_X12_readAll hT1 (fun q2 μ2 hq2 hpa2 hA p2 => aK_i ?_) (fun m μ2 hm1 hm2 hpa2 hA rd => absurd (hpa.symm.trans hpa2) (flt_ne (by omega)))
        refine wp_istore_n (pc := 23) dX12_wish_23 (by decide) ?_
        refine wp_aload_n (pc := 24) dX12_wish_24 (by first | rfl | assumption | (repeat first | assumption | rfl | refine aG_n ?_ rfl rfl)) ?_
        refine wp_iconst (pc := 25) (v := 0) dX12_wish_25 (by decide) ?_
        refine wp_putI (pc := 26) dX12_wish_26 fl_12_161 (by first | rfl | assumption | exact sh_house (by omega) | exact sh_wish (by omega) | exact sh_wor (by omega) | exact sh_bar (by omega) | exact sh_term (by omega) | exact sh_sheet (by omega) | exact sh_items (by omega) | exact sh_sums (by omega)) rfl rfl rfl ?_
        refine wp_iload_n (pc := 29) dX12_wish_29 (by first | rfl | assumption | (repeat first | assumption | rfl | refine aG_n ?_ rfl rfl)) ?_
        refine wp_if_ge (pc := 30) (tgt := 46) dX12_wish_30 rfl (fun q => absurd q (by decide)) (fun _ => ?_)
        refine wp_aload_n (pc := 33) dX12_wish_33 (by first | rfl | assumption | (repeat first | assumption | rfl | refine aG_n ?_ rfl rfl)) ?_
        refine wp_cV (pc := 34) dX12_wish_34 lk_12_167 rfl (by decide) rfl (by first | rfl | assumption | exact sh_house (by omega) | exact sh_wish (by omega) | exact sh_wor (by omega) | exact sh_bar (by omega) | exact sh_term (by omega) | exact sh_sheet (by omega) | exact sh_items (by omega) | exact sh_sums (by omega)) rfl rfl ?_
        refine wp_aload_n (pc := 0) dX12_next_0 (by first | rfl | assumption | (repeat first | assumption | rfl | refine aG_n ?_ rfl rfl)) ?_
        refine wp_getI (pc := 1) dX12_next_1 fl_12_164 (by first | rfl | assumption | exact sh_house (by omega) | exact sh_wish (by omega) | exact sh_wor (by omega) | exact sh_bar (by omega) | exact sh_term (by omega) | exact sh_sheet (by omega) | exact sh_items (by omega) | exact sh_sums (by omega)) rfl ?_
        refine wp_aload_n (pc := 4) dX12_next_4 (by first | rfl | assumption | (repeat first | assumption | rfl | refine aG_n ?_ rfl rfl)) ?_
        refine wp_getI (pc := 5) dX12_next_5 fl_12_161 (by first | rfl | assumption | exact sh_house (by omega) | exact sh_wish (by omega) | exact sh_wor (by omega) | exact sh_bar (by omega) | exact sh_term (by omega) | exact sh_sheet (by omega) | exact sh_items (by omega) | exact sh_sums (by omega)) rfl ?_
        refine wp_icmp_ge (pc := 8) (tgt := 38) dX12_next_8 rfl (fun _ => ?_) (fun q => absurd (by dsimp only; rw [up2_p (show ¬ (86 = 86 ∧ 11 = 10) by omega), p2, up2_at]; exact nI_pos' (by omega)) q)
        refine wp_aload_n (pc := 38) dX12_next_38 (by first | rfl | assumption | (repeat first | assumption | rfl | refine aG_n ?_ rfl rfl)) ?_
        refine wp_getI (pc := 39) dX12_next_39 fl_12_164 (by first | rfl | assumption | exact sh_house (by omega) | exact sh_wish (by omega) | exact sh_wor (by omega) | exact sh_bar (by omega) | exact sh_term (by omega) | exact sh_sheet (by omega) | exact sh_items (by omega) | exact sh_sums (by omega)) rfl ?_
        refine wp_aload_n (pc := 42) dX12_next_42 (by first | rfl | assumption | (repeat first | assumption | rfl | refine aG_n ?_ rfl rfl)) ?_
        refine wp_getI (pc := 43) dX12_next_43 fl_12_161 (by first | rfl | assumption | exact sh_house (by omega) | exact sh_wish (by omega) | exact sh_wor (by omega) | exact sh_bar (by omega) | exact sh_term (by omega) | exact sh_sheet (by omega) | exact sh_items (by omega) | exact sh_sums (by omega)) rfl ?_
        refine wp_icmp_ge (pc := 46) (tgt := 61) dX12_next_46 rfl (fun _ => ?_) (fun q => absurd (by dsimp only; rw [up2_p (show ¬ (86 = 86 ∧ 11 = 10) by omega), p2, up2_at]; exact nI_pos' (by omega)) q)
        refine wp_iconst (pc := 61) (v := -1) dX12_next_61 (by decide) ?_
        refine wp_iretK (pc := 62) dX12_next_62 rfl (by first | rfl | decide | assumption) ?_
        refine wp_popi (pc := 37) dX12_wish_37 ?_
        refine wp_bipush (pc := 38) (v := -20) dX12_wish_38 (by decide) ?_
        refine wp_aload_n (pc := 40) dX12_wish_40 (by first | rfl | assumption | (repeat first | assumption | rfl | refine aG_n ?_ rfl rfl)) ?_
        refine wp_getI (pc := 41) dX12_wish_41 fl_12_164 (by first | rfl | assumption | exact sh_house (by omega) | exact sh_wish (by omega) | exact sh_wor (by omega) | exact sh_bar (by omega) | exact sh_term (by omega) | exact sh_sheet (by omega) | exact sh_items (by omega) | exact sh_sums (by omega)) rfl ?_
        refine wp_isub (pc := 44) dX12_wish_44 ?_
        refine wp_ireturn (pc := 45) dX12_wish_45 rfl (by first | rfl | decide | assumption) ?_
        skip
        refine qEq ?_ (k' _ (fin _ (fun c j h1 h2 => ?_) hA.2 (by dsimp only; exact up2_at)))
        · dsimp only
          rw [up2_p (show ¬ (86 = 86 ∧ 11 = 10) by omega), p2, ← hpa2, hpa]
        · dsimp only
          rw [up2_p (by omega), hA.1 c j (by omega) h2]
      · -- a WISH
        have hT1 : TG μ1.1 86 10 96 b n := hTm.c (o1 86 10 (by omega) (by omega)) (fun j => o1 96 j (by omega) (by omega))
        have o1r : ∀ c, ¬ (c = 2 ∨ (4 ≤ c ∧ c ≤ 6)) → μ1.1 c = μ.1 c := fun c hc => funext fun j => o1 c j (by omega) (by omega)
        have s11' : μ1.1 11 1 = nI st := by rw [o1r 11 (by omega)]; exact s11
        refine wp_istore_n (pc := 33) dX11_wish_33 (by decide) ?_
        refine wp_iload_n (pc := 34) dX11_wish_34 (by first | rfl | assumption | (repeat first | assumption | rfl | refine aG_n ?_ rfl rfl)) ?_
        refine wp_if_le (pc := 35) (tgt := 62) dX11_wish_35 rfl (fun q => absurd q (nI_nle (by omega) (by omega))) (fun _ => ?_)
        refine wp_aload_n (pc := 38) dX11_wish_38 (by first | rfl | assumption | (repeat first | assumption | rfl | refine aG_n ?_ rfl rfl)) ?_
        refine wp_getR (pc := 39) dX11_wish_39 fl_11_11 (by first | rfl | assumption | exact sh_house (by omega) | exact sh_wish (by omega) | exact sh_wor (by omega) | exact sh_bar (by omega) | exact sh_term (by omega) | exact sh_sheet (by omega) | exact sh_items (by omega) | exact sh_sums (by omega)) rfl ?_
        refine wp_iload_n (pc := 42) dX11_wish_42 (by first | rfl | assumption | (repeat first | assumption | rfl | refine aG_n ?_ rfl rfl)) ?_
        refine wp_aald (pc := 43) dX11_wish_43 (by first | rfl | assumption | exact sh_house (by omega) | exact sh_wish (by omega) | exact sh_wor (by omega) | exact sh_bar (by omega) | exact sh_term (by omega) | exact sh_sheet (by omega) | exact sh_items (by omega) | exact sh_sums (by omega)) (vp_in_nI (by omega) (by decide)) (by decide) (el_house (by omega)) ?_
        refine wp_getR (pc := 44) dX11_wish_44 fl_11_127 (by first | rfl | assumption | exact sh_house (by omega) | exact sh_wish (by omega) | exact sh_wor (by omega) | exact sh_bar (by omega) | exact sh_term (by omega) | exact sh_sheet (by omega) | exact sh_items (by omega) | exact sh_sums (by omega)) rfl ?_
        refine wp_aload_n (pc := 47) dX11_wish_47 (by first | rfl | assumption | (repeat first | assumption | rfl | refine aG_n ?_ rfl rfl)) ?_
        refine wp_getR (pc := 48) dX11_wish_48 fl_11_25 (by first | rfl | assumption | exact sh_house (by omega) | exact sh_wish (by omega) | exact sh_wor (by omega) | exact sh_bar (by omega) | exact sh_term (by omega) | exact sh_sheet (by omega) | exact sh_items (by omega) | exact sh_sums (by omega)) rfl ?_
        refine wp_cV (pc := 51) dX11_wish_51 lk_11_130 rfl (by decide) rfl (by first | rfl | assumption | exact sh_house (by omega) | exact sh_wish (by omega) | exact sh_wor (by omega) | exact sh_bar (by omega) | exact sh_term (by omega) | exact sh_sheet (by omega) | exact sh_items (by omega) | exact sh_sums (by omega)) rfl rfl ?_
        refine c_X10_become (W := 56 + 4 * i) (V := 4) (Wsh_h (by omega)) Wsh_d (by omega) (fun s hs => by rw [(df.2 s hs).2]; exact b2_01 _) (fun μ2 o2 z2 w2 => aK_v ?_)
        have x11 : μ2.1 11 1 = nI st := by rw [o2.1 11 (by omega)]; exact s11'
        refine wp_aload_n (pc := 54) dX11_wish_54 (by first | rfl | assumption | (repeat first | assumption | rfl | refine aG_n ?_ rfl rfl)) ?_
        refine wp_getR (pc := 55) dX11_wish_55 fl_11_39 (by first | rfl | assumption | exact sh_house (by omega) | exact sh_wish (by omega) | exact sh_wor (by omega) | exact sh_bar (by omega) | exact sh_term (by omega) | exact sh_sheet (by omega) | exact sh_items (by omega) | exact sh_sums (by omega)) rfl ?_
        refine wp_iload_n (pc := 58) dX11_wish_58 (by first | rfl | assumption | (repeat first | assumption | rfl | refine aG_n ?_ rfl rfl)) ?_
        refine wp_cV (pc := 59) dX11_wish_59 lk_11_134 rfl (by decide) rfl (by first | rfl | assumption | exact sh_house (by omega) | exact sh_wish (by omega) | exact sh_wor (by omega) | exact sh_bar (by omega) | exact sh_term (by omega) | exact sh_sheet (by omega) | exact sh_items (by omega) | exact sh_sums (by omega)) rfl rfl (c_X0_forget (show i < 4 by omega) hst x11 (aK_v ?_))
        refine wp_iload_n (pc := 62) dX11_wish_62 (by first | rfl | assumption | (repeat first | assumption | rfl | refine aG_n ?_ rfl rfl)) ?_
        refine wp_ireturn (pc := 63) dX11_wish_63 rfl (by first | rfl | decide | assumption) ?_
        refine k _ _ (fun Q' k' => ?_)
        have oo : ∀ c, c ≠ 11 → ¬ (56 + 4 * i ≤ c ∧ c ≤ 58 + 4 * i) → up2 μ2.1 11 1 (nI (st ||| 2 ^ i)) c = μ1.1 c := fun c h1 h2 => by
          rw [up2_ne h1]; exact o2.1 c (by omega)
        have hT2 : TG (up2 μ2.1 11 1 (nI (st ||| 2 ^ i))) 86 10 96 b n := hT1.c (by rw [oo 86 (by omega) (by omega)]) (fun j => by rw [oo 96 (by omega) (by omega)])
        refine wp_iload_n (pc := 0) dX12_wish_0 (by first | rfl | assumption | (repeat first | assumption | rfl | refine aG_n ?_ rfl rfl)) ?_
        refine wp_cS (pc := 1) dX12_wish_1 lk_12_143 rfl rfl rfl (c_X12_isHouse (fun _ => aK_i ?_) (fun q => absurd c1 q))
        refine wp_if_ne (pc := 4) (tgt := 9) dX12_wish_4 rfl (fun _ => ?_) (fun q => absurd q (by decide))
        refine wp_aload_n (pc := 9) dX12_wish_9 (by first | rfl | assumption | (repeat first | assumption | rfl | refine aG_n ?_ rfl rfl)) ?_
        refine wp_cV (pc := 10) dX12_wish_10 lk_12_147 rfl (by decide) rfl (by first | rfl | assumption | exact sh_house (by omega) | exact sh_wish (by omega) | exact sh_wor (by omega) | exact sh_bar (by omega) | exact sh_term (by omega) | exact sh_sheet (by omega) | exact sh_items (by omega) | exact sh_sums (by omega)) rfl rfl (c_X12_isTalking (fun q => absurd q (by dsimp only; rw [oo 86 (by omega) (by omega), o1 86 15 (by omega) (by omega)]; exact c5)) (fun _ => aK_i ?_))
        refine wp_if_eq (pc := 13) (tgt := 19) dX12_wish_13 rfl (fun _ => ?_) (fun q => absurd q (by decide))
        refine wp_aload_n (pc := 19) dX12_wish_19 (by first | rfl | assumption | (repeat first | assumption | rfl | refine aG_n ?_ rfl rfl)) ?_
        refine wp_cV (pc := 20) dX12_wish_20 lk_12_188 rfl (by decide) rfl (by first | rfl | assumption | exact sh_house (by omega) | exact sh_wish (by omega) | exact sh_wor (by omega) | exact sh_bar (by omega) | exact sh_term (by omega) | exact sh_sheet (by omega) | exact sh_items (by omega) | exact sh_sums (by omega)) rfl rfl ?_
        refine c_X12_readAll hT2 (fun q2 μ3 hq2 hpa2 hA p2 => absurd (hpa2.symm.trans hpa) (flt_ne (by omega))) (fun m' μ3 hm1' hm2' hpa2 hA rd => aK_i ?_)
        obtain rfl : m' = m := (nI_eq (by omega) (by omega)).mp (hpa2.symm.trans hpa)
        refine wp_istore_n (pc := 23) dX12_wish_23 (by decide) ?_
        refine wp_aload_n (pc := 24) dX12_wish_24 (by first | rfl | assumption | (repeat first | assumption | rfl | refine aG_n ?_ rfl rfl)) ?_
        refine wp_iconst (pc := 25) (v := 0) dX12_wish_25 (by decide) ?_
        refine wp_putI (pc := 26) dX12_wish_26 fl_12_161 (by first | rfl | assumption | exact sh_house (by omega) | exact sh_wish (by omega) | exact sh_wor (by omega) | exact sh_bar (by omega) | exact sh_term (by omega) | exact sh_sheet (by omega) | exact sh_items (by omega) | exact sh_sums (by omega)) rfl rfl rfl ?_
        refine wp_iload_n (pc := 29) dX12_wish_29 (by first | rfl | assumption | (repeat first | assumption | rfl | refine aG_n ?_ rfl rfl)) ?_
        refine wp_if_ge (pc := 30) (tgt := 46) dX12_wish_30 rfl (fun _ => ?_) (fun q => absurd (nI_pos' (by omega)) q)
        refine wp_iconst (pc := 46) (v := 0) dX12_wish_46 (by decide) ?_
        refine wp_istore_n (pc := 47) dX12_wish_47 (by decide) ?_
        skip
        have rd' : ∀ q, q < m' → up2 μ3.1 86 10 0 97 q = nI (cS b n q) ∧ up2 μ3.1 86 10 0 98 q = cV b n q ∧ up2 μ3.1 86 10 0 99 q = b2i (cX b n q) := fun q hq => by
          rw [up2_ne (show 97 ≠ 86 by decide), up2_ne (show 98 ≠ 86 by decide), up2_ne (show 99 ≠ 86 by decide)]; exact rd q hq
        refine l_keep (μ := (up2 μ3.1 86 10 0, μ3.2)) (i := i) (m := m') (by omega) hm2 (fun q hq => by dsimp only; rw [(rd' q hq).2.2]; exact b2_01 _) (fun μ4 hK r4 => k' _ ?_) m' 0 (by omega) (up2 μ3.1 86 10 0, μ3.2) KC_0 rfl _ (by first | rfl | assumption | (repeat first | assumption | rfl | refine aG_n ?_ rfl rfl)) (by first | rfl | assumption | (repeat first | assumption | rfl | refine aG_n ?_ rfl rfl)) (by first | rfl | assumption | (repeat first | assumption | rfl | refine aG_n ?_ rfl rfl)) (by first | rfl | assumption | (repeat first | assumption | rfl | refine aG_n ?_ rfl rfl))
        obtain ⟨q1, q2, q3, q4, q5⟩ := hK
        dsimp only at q1 q2 q3 q4 q5 hA
        have r3 : ∀ c j, ¬ (c = 86 ∧ (j = 10 ∨ j = 11)) → ¬ (97 ≤ c ∧ c ≤ 99) → up2 μ3.1 86 10 0 c j = up2 μ2.1 11 1 (nI (st ||| 2 ^ i)) c j := fun c j h1 h2 => by
          rw [up2_p (by omega), hA.1 c j (by omega) h2]
        have r4' : ∀ c j, ¬ (c = 86 ∧ (j = 10 ∨ j = 11)) → ¬ (97 ≤ c ∧ c ≤ 99) → ¬ (92 ≤ c ∧ c ≤ 95) → c ≠ 11 → ¬ (56 + 4 * i ≤ c ∧ c ≤ 58 + 4 * i) → ¬ (c = 2) → ¬ (4 ≤ c ∧ c ≤ 6) → μ4.1 c j = μ.1 c j := fun c j h1 h2 h3 h4 h5 h6 h7 => by
          rw [q1 c (by omega), r3 c j h1 h2, oo c h4 h5, o1r c (by omega)]
        have k5 : ∀ q, q < m' → cS b n q < 64 ∧ μ4.1 93 (12 * i + q) = nI (cS b n q) ∧ μ4.1 94 (12 * i + q) = cV b n q ∧ μ4.1 95 (12 * i + q) = b2i (cX b n q) := fun q hq => by
          obtain ⟨y1, y2, y3⟩ := q5 q hq
          obtain ⟨x1, x2, x3⟩ := rd' q hq
          exact ⟨cL_lt hTm.2.1 (hok q hq).2, y1.trans x1, y2.trans x2, y3.trans x3⟩
        have r92 : ∀ c y, 92 ≤ c → c ≤ 95 → up2 μ3.1 86 10 0 c y = μ.1 c y := fun c y h1 h2 => by
          rw [r3 c y (by omega) (by omega), oo c (by omega) (by omega), o1r c (by omega)]
        refine Inv_wish (i := i) (n := m') (st := st) hI (by omega) hm2 s11 hst (by rw [r4]; dsimp only; rw [hA.2, o2.2, r1]) (fun c y hc hx => ?_) ⟨0, by omega, ?_, ?_, fun j hj => ⟨?_, fun z => absurd z (by omega)⟩⟩ ?_ (fun h hh2 hne => ⟨?_, fun q hq => ?_⟩) ?_ (q3 (by omega)) (fun q hq => ⟨⟨cS b n q, ?_, (k5 q hq).1, (k5 q hq).2.1⟩, ?_, ?_⟩) (fun z hz => ?_)
        · unfold scr at hc
          by_cases e11 : c = 11
          · subst e11
            rw [q1 11 (by omega), r3 11 y (by omega) (by omega), up2_p (by omega), o2.1 11 (by omega), o1r 11 (by omega)]
          · by_cases e2 : c = 2
            · subst e2
              rw [q1 2 (by omega), r3 2 y (by omega) (by omega), oo 2 (by omega) (by omega), o1 2 y (by omega) (by omega)]
            · exact r4' c y (by omega) (by omega) (by omega) e11 (by omega) e2 (by omega)
        · rw [q1 2 (by omega), r3 2 1 (by omega) (by omega), oo 2 (by omega) (by omega)]; exact z1
        · rw [q1 86 (by omega)]; exact up2_at
        · rw [r4' 3 j (by omega) (by omega) (by omega) (by omega) (by omega) (by omega) (by omega), r4' 96 j (by omega) (by omega) (by omega) (by omega) (by omega) (by omega) (by omega)]; exact (t3 j hj).1
        · rw [q1 11 (by omega), r3 11 1 (by omega) (by omega)]; exact up2_at
        · rw [q2 h hne, r92 92 h (by omega) (by omega)]
        · obtain ⟨y1, y2, y3⟩ := q4 (12 * h + q) (by omega)
          rw [y1, y2, y3, r92 93 _ (by omega) (by omega), r92 94 _ (by omega) (by omega), r92 95 _ (by omega) (by omega)]
          exact ⟨rfl, rfl, rfl⟩
        · rw [q1 (56 + 4 * i) (by omega), r3 (56 + 4 * i) 0 (by omega) (by omega), up2_ne (by omega), z2]; exact df.1
        · have := (hok q hq).1.1
          exact Nat.pos_of_ne_zero this
        · rw [(k5 q hq).2.2.1]; exact cV_in (hok q hq).1
        · rw [(k5 q hq).2.2.2]; exact b2_01 _
        · obtain ⟨f1, f2⟩ := wD_F (M := μ4.1) (b := b) (n := n) (i := i) hz (fun _ _ => Or.inr trivial) m' k5
          rw [f1, f2, q1 (57 + 4 * i) (by omega), q1 (58 + 4 * i) (by omega), r3 (57 + 4 * i) z (by omega) (by omega), r3 (58 + 4 * i) z (by omega) (by omega), up2_ne (by omega), up2_ne (by omega), show 57 + 4 * i = 56 + 4 * i + 1 by omega, show 58 + 4 * i = 56 + 4 * i + 2 by omega, (w2 z hz).1, (w2 z hz).2]
          exact df.2 z hz
  · refine wp_iload_n (pc := 0) dX11_wish_0 (by first | rfl | assumption | (repeat first | assumption | rfl | refine aG_n ?_ rfl rfl)) ?_
    refine wp_cS (pc := 1) dX11_wish_1 lk_11_101 rfl rfl rfl (c_X11_isHouse (fun q => absurd q c1) (fun _ => aK_i ?_))
    refine wp_if_ne (pc := 4) (tgt := 9) dX11_wish_4 rfl (fun q => absurd q (by decide)) (fun _ => ?_)
    refine wp_iconst (pc := 7) (v := -1) dX11_wish_7 (by decide) ?_
    refine wp_ireturn (pc := 8) dX11_wish_8 rfl (by first | rfl | decide | assumption) ?_
    refine k _ _ (fun Q' k' => ?_)
    refine wp_iload_n (pc := 0) dX12_wish_0 (by first | rfl | assumption | (repeat first | assumption | rfl | refine aG_n ?_ rfl rfl)) ?_
    refine wp_cS (pc := 1) dX12_wish_1 lk_12_143 rfl rfl rfl (c_X12_isHouse (fun q => absurd q c1) (fun _ => aK_i ?_))
    refine wp_if_ne (pc := 4) (tgt := 9) dX12_wish_4 rfl (fun q => absurd q (by decide)) (fun _ => ?_)
    refine wp_iconst (pc := 7) (v := -1) dX12_wish_7 (by decide) ?_
    refine wp_ireturn (pc := 8) dX12_wish_8 rfl (by first | rfl | decide | assumption) ?_
    exact k' _ hI

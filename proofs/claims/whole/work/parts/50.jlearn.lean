theorem LK_s {M M' : MM} {R R' : Nat → Nat → Nat} {a b w ta tb : Nat} (h : Smm M M') (hR : R' 74 = R 74) (hL : LK M R a b w ta tb) : LK M' R' a b w ta tb := by
  obtain ⟨x1, x2, x3, x4, x5, x6, x7, x8, x9⟩ := hL
  have e86 : ∀ j, ¬ (j = 11 ∨ j = 29 ∨ j = 31) → M' 86 j = M 86 j := fun j hj => h 86 j (by unfold scr; omega)
  have er : ∀ c, (73 ≤ c ∧ c ≤ 77) ∨ (100 ≤ c ∧ c ≤ 102) → M' c = M c := fun c hc => h.row (fun j => by unfold scr; omega)
  refine ⟨x1, ?_, ?_, x4, ?_, ?_, by rw [hR]; exact x7, fun j hj => ?_, fun j hj => ?_⟩
  · rw [er 73 (by omega), e86 16 (by omega), e86 17 (by omega)]; exact x2
  · rw [er 73 (by omega), e86 19 (by omega)]; exact x3
  · rw [er 74 (by omega), e86 23 (by omega), e86 24 (by omega)]; exact x5
  · rw [er 74 (by omega), e86 25 (by omega), e86 26 (by omega)]; exact x6
  · rw [er 75 (by omega), er 76 (by omega), er 77 (by omega), er 100 (by omega), er 101 (by omega), er 102 (by omega)]; exact x8 j hj
  · unfold isOf wu
    rw [er 100 (by omega), er 101 (by omega), er 102 (by omega)]
    exact x9 j hj
theorem Inv_A {μ μ1 μ2 : Mm} (hI : Inv μ) (h1 : Smm μ.1 μ1.1) (r1 : μ1.2 74 = μ.2 74) (h2 : offA μ1 μ2) : Inv μ2 := by
  obtain ⟨M, R⟩ := μ
  obtain ⟨M2, R2⟩ := μ2
  refine Inv_s hI (fun c j hc => ?_) (by rw [show R2 = μ1.2 from h2.2]; exact r1)
  have hc' := hc
  unfold scr at hc'
  exact (h2.1 c j (by omega)).trans (h1 c j hc)
section LEARN
variable {X : aX} {μ : Mm} {Q : Option Value → Mm → Prop} {a b w ta tb d n : Nat} {R : Nat → Nat → Nat} {hv : Int32}
/-- the model's count, from pc 50 on -/
theorem m_count {m sd : Nat} (hW : I_wish μ.1) (hL : LK μ.1 R a b w ta tb) (hd : d < 2) (hsd : ∀ k, k < sd → 2 * k + d < w) (hm : m ≤ sd) (hsd2 : sd ≤ 20) (hsv : (if d = 0 then (μ.1 86 19 + 1) / 2 else μ.1 86 19 / 2) = nI sd) (hhv : hv = nI (two a b d)) (k4 : 4 < cn (ta ||| tb) 6 → ∀ μ', offA μ μ' → Q (some (.int (-2))) μ') (k : cn (ta ||| tb) 6 ≤ 4 → ∀ μ', offA μ μ' → Q (some (.int (nI (ctF (fun c => ∀ k, k < (if m = 0 then sd else m) → GW μ.1 a b ta tb d c (2 * k + d)) (3 ^ cn (ta ||| tb) 6))))) μ') (L : aL) (g0 : aL_get L 0 = some (.ref 86)) (g1 : aL_get L 1 = some (.int hv)) (g2 : aL_get L 2 = some (.int (nI m))) : WP X mX12_learnt 50 L [] μ Q := by
  obtain ⟨⟨ha, hb, hab⟩, ⟨-, kp2, -, kp4⟩, ⟨hw, l31, l32⟩, ⟨hta, htb⟩, ⟨l51, l52, l53, l54⟩, -⟩ := id hL
  have hp := o64 hta htb
  have hpool : μ.1 86 23 ||| μ.1 86 24 = nI (ta ||| tb) := by rw [l51, l52]; exact or6 hta htb
  have h6 := cn_le (ta ||| tb) 6
  refine wp_aload_n (pc := 50) dX12_learnt_50 (by first | rfl | assumption | (repeat first | assumption | rfl | refine aG_n ?_ rfl rfl)) ?_
  refine wp_iconst (pc := 51) (v := 0) dX12_learnt_51 (by decide) ?_
  refine wp_putI (pc := 52) dX12_learnt_52 fl_12_295 (by first | rfl | assumption | exact sh_house (by omega) | exact sh_wish (by omega) | exact sh_wor (by omega) | exact sh_bar (by omega) | exact sh_term (by omega) | exact sh_sheet (by omega) | exact sh_items (by omega) | exact sh_sums (by omega)) rfl rfl rfl ?_
  refine wp_iconst (pc := 55) (v := 0) dX12_learnt_55 (by decide) ?_
  refine wp_istore_n (pc := 56) dX12_learnt_56 (by decide) ?_
  skip
  refine l_alt (μ := μ) hp hpool (fun μ1 o1 c31 c105 L g0 g1 g2 => ?_) 6 0 (by omega) (up2 μ.1 86 31 0, μ.2) ⟨fun x j hx => up2_p (by omega), rfl⟩ (by dsimp only; exact up2_at) (fun s hs => absurd hs (by omega)) _ (by first | rfl | assumption | (repeat first | assumption | rfl | refine aG_n ?_ rfl rfl)) (by first | rfl | assumption | (repeat first | assumption | rfl | refine aG_n ?_ rfl rfl)) (by first | rfl | assumption | (repeat first | assumption | rfl | refine aG_n ?_ rfl rfl))  (by first | rfl | assumption | (repeat first | assumption | rfl | refine aG_n ?_ rfl rfl))
  have e19 : μ1.1 86 19 = μ.1 86 19 := o1.1 86 19 (by omega)
  have e16 : μ1.1 86 16 = nI a := by rw [o1.1 86 16 (by omega)]; exact kp2
  by_cases c4 : cn (ta ||| tb) 6 ≤ 4
  · have hfin : ∀ (nn : Nat), nn = (if m = 0 then sd else m) → ∀ L : aL, aL_get L 0 = some (.ref 86) → aL_get L 1 = some (.int hv) → aL_get L 3 = some (.int 0) → aL_get L 4 = some (.int (nI (3 ^ cn (ta ||| tb) 6))) → aL_get L 5 = some (.int (nI nn)) → WP X mX12_learnt 161 L [] μ1 Q := by
      intro nn hnn L g0 g1 g3 g4 g5
      have hn' : ∀ k, k < nn → 2 * k + d < w := fun k hk => hsd k (by rw [hnn] at hk; split at hk <;> omega)
      have hle : nn ≤ 20 := by rw [hnn]; split <;> omega
      refine wp_iconst (pc := 161) (v := 0) dX12_learnt_161 (by decide) ?_
      refine wp_istore (pc := 162) dX12_learnt_162 (by decide) ?_
      skip
      refine l_cs (μ := μ1) (R := R) (n := nn) (d := d) (o1.wish hW) (o1.lk hL) hd hn' (by omega) hhv (fun μ2 o2 => ?_) (3 ^ cn (ta ||| tb) 6) 0 (by omega) μ1 ⟨fun _ _ _ => rfl, rfl⟩ c31 c105 _ (by first | rfl | assumption | (repeat first | assumption | rfl | refine aG_n ?_ rfl rfl)) (by first | rfl | assumption | (repeat first | assumption | rfl | refine aG_n ?_ rfl rfl)) (by first | rfl | assumption | (repeat first | assumption | rfl | refine aG_n ?_ rfl rfl)) (by first | rfl | assumption | (repeat first | assumption | rfl | refine aG_n ?_ rfl rfl)) (by first | rfl | assumption | (repeat first | assumption | rfl | refine aG_n ?_ rfl rfl)) (by first | rfl | assumption | (repeat first | assumption | rfl | refine aG_n ?_ rfl rfl))
      rw [ctF_c (P := fun c => ∀ k, k < nn → GW μ.1 a b ta tb d c (2 * k + d)) _ (fun c _ => ⟨fun z k hk => (o1.gw ha hb).mp (z k hk), fun z k hk => (o1.gw ha hb).mpr (z k hk)⟩)]
      have := k c4 μ2 (o1.tr o2)
      rw [← hnn] at this
      exact this
    refine wp_aload_n (pc := 106) dX12_learnt_106 (by first | rfl | assumption | (repeat first | assumption | rfl | refine aG_n ?_ rfl rfl)) ?_
    refine wp_getI (pc := 107) dX12_learnt_107 fl_12_295 (by first | rfl | assumption | exact sh_house (by omega) | exact sh_wish (by omega) | exact sh_wor (by omega) | exact sh_bar (by omega) | exact sh_term (by omega) | exact sh_sheet (by omega) | exact sh_items (by omega) | exact sh_sums (by omega)) rfl ?_
    refine wp_iconst (pc := 110) (v := 4) dX12_learnt_110 (by decide) ?_
    refine wp_icmp_le (pc := 111) (tgt := 117) dX12_learnt_111 rfl (fun _ => ?_) (fun q => absurd (by rw [c31]; exact nI_le (b := 4) c4 (by omega)) q)
    refine wp_iconst (pc := 117) (v := 0) dX12_learnt_117 (by decide) ?_
    refine wp_istore_n (pc := 118) dX12_learnt_118 (by decide) ?_
    refine wp_iconst (pc := 119) (v := 1) dX12_learnt_119 (by decide) ?_
    refine wp_istore (pc := 120) dX12_learnt_120 (by decide) ?_
    refine wp_iconst (pc := 122) (v := 0) dX12_learnt_122 (by decide) ?_
    refine wp_istore (pc := 123) dX12_learnt_123 (by decide) ?_
    skip
    refine l_p3 c31 (fun L g0 g1 g2 g3 g4 => ?_) (cn (ta ||| tb) 6) 0 (by omega) _ (by first | rfl | assumption | (repeat first | assumption | rfl | refine aG_n ?_ rfl rfl)) (by first | rfl | assumption | (repeat first | assumption | rfl | refine aG_n ?_ rfl rfl)) (by first | rfl | assumption | (repeat first | assumption | rfl | refine aG_n ?_ rfl rfl)) (by first | rfl | assumption | (repeat first | assumption | rfl | refine aG_n ?_ rfl rfl)) (by first | rfl | assumption | (repeat first | assumption | rfl | refine aG_n ?_ rfl rfl)) (by first | rfl | assumption | (repeat first | assumption | rfl | refine aG_n ?_ rfl rfl))
    by_cases m0 : m = 0
    · obtain hdd | hdd : d = 0 ∨ d = 1 := by omega
      · rw [if_pos hdd] at hsv
        refine wp_iload_n (pc := 146) dX12_learnt_146 (by first | rfl | assumption | (repeat first | assumption | rfl | refine aG_n ?_ rfl rfl)) ?_
        refine wp_if_ne (pc := 147) (tgt := 158) dX12_learnt_147 rfl (fun q => absurd (by rw [m0]; rfl) q) (fun _ => ?_)
        refine wp_aload_n (pc := 150) dX12_learnt_150 (by first | rfl | assumption | (repeat first | assumption | rfl | refine aG_n ?_ rfl rfl)) ?_
        refine wp_iload_n (pc := 151) dX12_learnt_151 (by first | rfl | assumption | (repeat first | assumption | rfl | refine aG_n ?_ rfl rfl)) ?_
        refine wp_cV (pc := 152) dX12_learnt_152 lk_12_301 rfl (by decide) rfl (by first | rfl | assumption | exact sh_house (by omega) | exact sh_wish (by omega) | exact sh_wor (by omega) | exact sh_bar (by omega) | exact sh_term (by omega) | exact sh_sheet (by omega) | exact sh_items (by omega) | exact sh_sums (by omega)) rfl rfl ?_
        refine wp_iload_n (pc := 0) dX12_saidBy_0 (by first | rfl | assumption | (repeat first | assumption | rfl | refine aG_n ?_ rfl rfl)) ?_
        refine wp_aload_n (pc := 1) dX12_saidBy_1 (by first | rfl | assumption | (repeat first | assumption | rfl | refine aG_n ?_ rfl rfl)) ?_
        refine wp_getI (pc := 2) dX12_saidBy_2 fl_12_235 (by first | rfl | assumption | exact sh_house (by omega) | exact sh_wish (by omega) | exact sh_wor (by omega) | exact sh_bar (by omega) | exact sh_term (by omega) | exact sh_sheet (by omega) | exact sh_items (by omega) | exact sh_sums (by omega)) rfl ?_
        refine wp_icmp_ne (pc := 5) (tgt := 19) dX12_saidBy_5 rfl (fun q => absurd (by rw [e16, hhv, hdd]; rfl) q) (fun _ => ?_)
        refine wp_aload_n (pc := 8) dX12_saidBy_8 (by first | rfl | assumption | (repeat first | assumption | rfl | refine aG_n ?_ rfl rfl)) ?_
        refine wp_getI (pc := 9) dX12_saidBy_9 fl_12_244 (by first | rfl | assumption | exact sh_house (by omega) | exact sh_wish (by omega) | exact sh_wor (by omega) | exact sh_bar (by omega) | exact sh_term (by omega) | exact sh_sheet (by omega) | exact sh_items (by omega) | exact sh_sums (by omega)) rfl ?_
        refine wp_iconst (pc := 12) (v := 1) dX12_saidBy_12 (by decide) ?_
        refine wp_iadd (pc := 13) dX12_saidBy_13 ?_
        refine wp_iconst (pc := 14) (v := 2) dX12_saidBy_14 (by decide) ?_
        refine wp_idiv (pc := 15) dX12_saidBy_15 (by decide) ?_
        refine wp_goto (pc := 16) (tgt := 25) dX12_saidBy_16 rfl ?_
        refine wp_iretK (pc := 25) dX12_saidBy_25 rfl (by first | rfl | decide | assumption) ?_
        refine wp_goto (pc := 155) (tgt := 159) dX12_learnt_155 rfl ?_
        refine wp_istore (pc := 159) dX12_learnt_159 (by decide) ?_
        exact hfin sd (by rw [if_pos m0]) _ (by first | rfl | assumption | (repeat first | assumption | rfl | refine aG_n ?_ rfl rfl)) (by first | rfl | assumption | (repeat first | assumption | rfl | refine aG_n ?_ rfl rfl)) (by first | rfl | assumption | (repeat first | assumption | rfl | refine aG_n ?_ rfl rfl)) (by first | rfl | assumption | (repeat first | assumption | rfl | refine aG_n ?_ rfl rfl)) (by rw [← hsv, ← e19]; first | rfl | assumption | (repeat first | assumption | rfl | refine aG_n ?_ rfl rfl))
      · rw [if_neg (by omega)] at hsv
        refine wp_iload_n (pc := 146) dX12_learnt_146 (by first | rfl | assumption | (repeat first | assumption | rfl | refine aG_n ?_ rfl rfl)) ?_
        refine wp_if_ne (pc := 147) (tgt := 158) dX12_learnt_147 rfl (fun q => absurd (by rw [m0]; rfl) q) (fun _ => ?_)
        refine wp_aload_n (pc := 150) dX12_learnt_150 (by first | rfl | assumption | (repeat first | assumption | rfl | refine aG_n ?_ rfl rfl)) ?_
        refine wp_iload_n (pc := 151) dX12_learnt_151 (by first | rfl | assumption | (repeat first | assumption | rfl | refine aG_n ?_ rfl rfl)) ?_
        refine wp_cV (pc := 152) dX12_learnt_152 lk_12_301 rfl (by decide) rfl (by first | rfl | assumption | exact sh_house (by omega) | exact sh_wish (by omega) | exact sh_wor (by omega) | exact sh_bar (by omega) | exact sh_term (by omega) | exact sh_sheet (by omega) | exact sh_items (by omega) | exact sh_sums (by omega)) rfl rfl ?_
        refine wp_iload_n (pc := 0) dX12_saidBy_0 (by first | rfl | assumption | (repeat first | assumption | rfl | refine aG_n ?_ rfl rfl)) ?_
        refine wp_aload_n (pc := 1) dX12_saidBy_1 (by first | rfl | assumption | (repeat first | assumption | rfl | refine aG_n ?_ rfl rfl)) ?_
        refine wp_getI (pc := 2) dX12_saidBy_2 fl_12_235 (by first | rfl | assumption | exact sh_house (by omega) | exact sh_wish (by omega) | exact sh_wor (by omega) | exact sh_bar (by omega) | exact sh_term (by omega) | exact sh_sheet (by omega) | exact sh_items (by omega) | exact sh_sums (by omega)) rfl ?_
        refine wp_icmp_ne (pc := 5) (tgt := 19) dX12_saidBy_5 rfl (fun _ => ?_) (fun q => absurd q (by rw [e16, hhv, hdd, show two a b 1 = b from rfl, nI_eq (by omega) (by omega)]; exact fun z => hab z.symm))
        refine wp_aload_n (pc := 19) dX12_saidBy_19 (by first | rfl | assumption | (repeat first | assumption | rfl | refine aG_n ?_ rfl rfl)) ?_
        refine wp_getI (pc := 20) dX12_saidBy_20 fl_12_244 (by first | rfl | assumption | exact sh_house (by omega) | exact sh_wish (by omega) | exact sh_wor (by omega) | exact sh_bar (by omega) | exact sh_term (by omega) | exact sh_sheet (by omega) | exact sh_items (by omega) | exact sh_sums (by omega)) rfl ?_
        refine wp_iconst (pc := 23) (v := 2) dX12_saidBy_23 (by decide) ?_
        refine wp_idiv (pc := 24) dX12_saidBy_24 (by decide) ?_
        refine wp_iretK (pc := 25) dX12_saidBy_25 rfl (by first | rfl | decide | assumption) ?_
        refine wp_goto (pc := 155) (tgt := 159) dX12_learnt_155 rfl ?_
        refine wp_istore (pc := 159) dX12_learnt_159 (by decide) ?_
        exact hfin sd (by rw [if_pos m0]) _ (by first | rfl | assumption | (repeat first | assumption | rfl | refine aG_n ?_ rfl rfl)) (by first | rfl | assumption | (repeat first | assumption | rfl | refine aG_n ?_ rfl rfl)) (by first | rfl | assumption | (repeat first | assumption | rfl | refine aG_n ?_ rfl rfl)) (by first | rfl | assumption | (repeat first | assumption | rfl | refine aG_n ?_ rfl rfl)) (by rw [← hsv, ← e19]; first | rfl | assumption | (repeat first | assumption | rfl | refine aG_n ?_ rfl rfl))
    · refine wp_iload_n (pc := 146) dX12_learnt_146 (by first | rfl | assumption | (repeat first | assumption | rfl | refine aG_n ?_ rfl rfl)) ?_
      refine wp_if_ne (pc := 147) (tgt := 158) dX12_learnt_147 rfl (fun _ => ?_) (fun q => absurd q (nI_ne0 (by omega) (by omega)))
      refine wp_iload_n (pc := 158) dX12_learnt_158 (by first | rfl | assumption | (repeat first | assumption | rfl | refine aG_n ?_ rfl rfl)) ?_
      refine wp_istore (pc := 159) dX12_learnt_159 (by decide) ?_
      exact hfin m (by rw [if_neg m0]) _ (by first | rfl | assumption | (repeat first | assumption | rfl | refine aG_n ?_ rfl rfl)) (by first | rfl | assumption | (repeat first | assumption | rfl | refine aG_n ?_ rfl rfl)) (by first | rfl | assumption | (repeat first | assumption | rfl | refine aG_n ?_ rfl rfl)) (by first | rfl | assumption | (repeat first | assumption | rfl | refine aG_n ?_ rfl rfl)) (by first | rfl | assumption | (repeat first | assumption | rfl | refine aG_n ?_ rfl rfl))
  · refine wp_aload_n (pc := 106) dX12_learnt_106 (by first | rfl | assumption | (repeat first | assumption | rfl | refine aG_n ?_ rfl rfl)) ?_
    refine wp_getI (pc := 107) dX12_learnt_107 fl_12_295 (by first | rfl | assumption | exact sh_house (by omega) | exact sh_wish (by omega) | exact sh_wor (by omega) | exact sh_bar (by omega) | exact sh_term (by omega) | exact sh_sheet (by omega) | exact sh_items (by omega) | exact sh_sums (by omega)) rfl ?_
    refine wp_iconst (pc := 110) (v := 4) dX12_learnt_110 (by decide) ?_
    refine wp_icmp_le (pc := 111) (tgt := 117) dX12_learnt_111 rfl (fun q => absurd q (by rw [c31]; exact nI_ge (a := 4) (by omega) (by omega))) (fun _ => ?_)
    refine wp_bipush (pc := 114) (v := -2) dX12_learnt_114 (by decide) ?_
    refine wp_ireturn (pc := 116) dX12_learnt_116 rfl (by first | rfl | decide | assumption) ?_
    exact k4 (by omega) _ o1
end LEARN
theorem J_learnt (h v : Int32) : Jnt mX11_learnt mX12_learnt [.int h, .int v] := by
  intro X μ Q hI k
  by_cases c1 : inR h 0 3
  · by_cases c2 : v < 0
    · refine wp_iload_n (pc := 0) dX11_learnt_0 (by first | rfl | assumption | (repeat first | assumption | rfl | refine aG_n ?_ rfl rfl)) ?_
      refine wp_cS (pc := 1) dX11_learnt_1 lk_11_101 rfl rfl rfl (c_X11_isHouse (fun _ => aK_i ?_) (fun q => absurd c1 q))
      refine wp_if_eq (pc := 4) (tgt := 11) dX11_learnt_4 rfl (fun q => absurd q (by decide)) (fun _ => ?_)
      refine wp_iload_n (pc := 7) dX11_learnt_7 (by first | rfl | assumption | (repeat first | assumption | rfl | refine aG_n ?_ rfl rfl)) ?_
      refine wp_if_ge (pc := 8) (tgt := 13) dX11_learnt_8 rfl (fun q => absurd q (fun z => i_nle c2 z)) (fun _ => ?_)
      refine wp_iconst (pc := 11) (v := -1) dX11_learnt_11 (by decide) ?_
      refine wp_ireturn (pc := 12) dX11_learnt_12 rfl (by first | rfl | decide | assumption) ?_
      refine k _ _ (fun Q' k' => ?_)
      refine wp_iload_n (pc := 0) dX12_learnt_0 (by first | rfl | assumption | (repeat first | assumption | rfl | refine aG_n ?_ rfl rfl)) ?_
      refine wp_cS (pc := 1) dX12_learnt_1 lk_12_143 rfl rfl rfl (c_X12_isHouse (fun _ => aK_i ?_) (fun q => absurd c1 q))
      refine wp_if_eq (pc := 4) (tgt := 11) dX12_learnt_4 rfl (fun q => absurd q (by decide)) (fun _ => ?_)
      refine wp_iload_n (pc := 7) dX12_learnt_7 (by first | rfl | assumption | (repeat first | assumption | rfl | refine aG_n ?_ rfl rfl)) ?_
      refine wp_if_ge (pc := 8) (tgt := 13) dX12_learnt_8 rfl (fun q => absurd q (fun z => i_nle c2 z)) (fun _ => ?_)
      refine wp_iconst (pc := 11) (v := -1) dX12_learnt_11 (by decide) ?_
      refine wp_ireturn (pc := 12) dX12_learnt_12 rfl (by first | rfl | decide | assumption) ?_
      exact k' _ hI
    · have c2' : 0 ≤ v := i_nlt c2
      obtain ⟨m, hm31, rfl⟩ := nI_of c2
      by_cases c3 : μ.1 86 15 = 0
      · have c3' : μ.1 73 0 = 0 := hI.2.2.2.2.2.1.1.trans c3
        refine wp_iload_n (pc := 0) dX11_learnt_0 (by first | rfl | assumption | (repeat first | assumption | rfl | refine aG_n ?_ rfl rfl)) ?_
        refine wp_cS (pc := 1) dX11_learnt_1 lk_11_101 rfl rfl rfl (c_X11_isHouse (fun _ => aK_i ?_) (fun q => absurd c1 q))
        refine wp_if_eq (pc := 4) (tgt := 11) dX11_learnt_4 rfl (fun q => absurd q (by decide)) (fun _ => ?_)
        refine wp_iload_n (pc := 7) dX11_learnt_7 (by first | rfl | assumption | (repeat first | assumption | rfl | refine aG_n ?_ rfl rfl)) ?_
        refine wp_if_ge (pc := 8) (tgt := 13) dX11_learnt_8 rfl (fun _ => ?_) (fun q => absurd c2' q)
        refine wp_aload_n (pc := 13) dX11_learnt_13 (by first | rfl | assumption | (repeat first | assumption | rfl | refine aG_n ?_ rfl rfl)) ?_
        refine wp_getR (pc := 14) dX11_learnt_14 fl_11_92 (by first | rfl | assumption | exact sh_house (by omega) | exact sh_wish (by omega) | exact sh_wor (by omega) | exact sh_bar (by omega) | exact sh_term (by omega) | exact sh_sheet (by omega) | exact sh_items (by omega) | exact sh_sums (by omega)) rfl ?_
        refine wp_getI (pc := 17) dX11_learnt_17 fl_11_206 (by first | rfl | assumption | exact sh_house (by omega) | exact sh_wish (by omega) | exact sh_wor (by omega) | exact sh_bar (by omega) | exact sh_term (by omega) | exact sh_sheet (by omega) | exact sh_items (by omega) | exact sh_sums (by omega)) rfl ?_
        refine wp_if_ne (pc := 20) (tgt := 26) dX11_learnt_20 rfl (fun q => absurd c3' q) (fun _ => ?_)
        refine wp_bipush (pc := 23) (v := -2) dX11_learnt_23 (by decide) ?_
        refine wp_ireturn (pc := 25) dX11_learnt_25 rfl (by first | rfl | decide | assumption) ?_
        refine k _ _ (fun Q' k' => ?_)
        refine wp_iload_n (pc := 0) dX12_learnt_0 (by first | rfl | assumption | (repeat first | assumption | rfl | refine aG_n ?_ rfl rfl)) ?_
        refine wp_cS (pc := 1) dX12_learnt_1 lk_12_143 rfl rfl rfl (c_X12_isHouse (fun _ => aK_i ?_) (fun q => absurd c1 q))
        refine wp_if_eq (pc := 4) (tgt := 11) dX12_learnt_4 rfl (fun q => absurd q (by decide)) (fun _ => ?_)
        refine wp_iload_n (pc := 7) dX12_learnt_7 (by first | rfl | assumption | (repeat first | assumption | rfl | refine aG_n ?_ rfl rfl)) ?_
        refine wp_if_ge (pc := 8) (tgt := 13) dX12_learnt_8 rfl (fun _ => ?_) (fun q => absurd c2' q)
        refine wp_aload_n (pc := 13) dX12_learnt_13 (by first | rfl | assumption | (repeat first | assumption | rfl | refine aG_n ?_ rfl rfl)) ?_
        refine wp_getI (pc := 14) dX12_learnt_14 fl_12_137 (by first | rfl | assumption | exact sh_house (by omega) | exact sh_wish (by omega) | exact sh_wor (by omega) | exact sh_bar (by omega) | exact sh_term (by omega) | exact sh_sheet (by omega) | exact sh_items (by omega) | exact sh_sums (by omega)) rfl ?_
        refine wp_if_ne (pc := 17) (tgt := 23) dX12_learnt_17 rfl (fun q => absurd c3 q) (fun _ => ?_)
        refine wp_bipush (pc := 20) (v := -2) dX12_learnt_20 (by decide) ?_
        refine wp_ireturn (pc := 22) dX12_learnt_22 rfl (by first | rfl | decide | assumption) ?_
        exact k' _ hI
      · have c3' : ¬ μ.1 73 0 = 0 := fun z => c3 (hI.2.2.2.2.2.1.1.symm.trans z)
        obtain ⟨a, b, w, ta, tb, hL⟩ := LK_of (M := μ.1) (R := μ.2) hI c3
        obtain ⟨⟨ha, hb, hab⟩, ⟨kp1, kp2, kp3, kp4⟩, ⟨hw, l31, l32⟩, ⟨hta, htb⟩, ⟨l51, l52, l53, l54⟩, -⟩ := id hL
        obtain ⟨i, hi, rfl⟩ := inR_of (n := 3) c1
        have hp := o64 hta htb
        have ep : μ.1 74 0 ||| μ.1 74 1 = nI (ta ||| tb) := by rw [l53, l54]; exact or6 hta htb
        have epc := pcn_cn _ hp
        have h6 := cn_le (ta ||| tb) 6
        have hW := hI.2.2.2.1
        have hV := hI.2.2.1
        have neq : ∀ x y : Nat, x < 4 → y < 4 → (nI x = nI y ↔ x = y) := fun x y hx hy => nI_eq (by omega) (by omega)
        by_cases ea : i = a
        · obtain rfl : a = i := ea.symm
          have es : (μ.1 73 3 + 1) / 2 = nI ((w + 1) / 2) := by rw [l31, nI_1]; exact pk_div (d := 2) (by omega) (by decide) (by decide)
          have esm : (if 0 = 0 then (μ.1 86 19 + 1) / 2 else μ.1 86 19 / 2) = nI ((w + 1) / 2) := by
            rw [if_pos rfl, l32, ← l31]; exact es
          by_cases c5 : m ≤ (w + 1) / 2
          · have hn : ∀ x, x < (if m = 0 then (w + 1) / 2 else m) → 2 * x + 0 < w := fun x hx => by
              split at hx <;> omega
            have hn31 : (if m = 0 then (w + 1) / 2 else m) < 2 ^ 31 := by split <;> omega
            by_cases c6 : cn (ta ||| tb) 6 ≤ 4
            · have mt : ∀ μ1 : Mm, Smm μ.1 μ1.1 → (∀ c, 86 ≤ c → μ1.1 c = μ.1 c) → (∀ c, 55 ≤ c → c ≤ 70 → μ1.1 c = μ.1 c) → μ1.2 74 = μ.2 74 → ∀ Q' : Option Value → Mm → Prop, (∀ μ2, Inv μ2 → Q' (some (.int (nI (ctF (fun c => ∀ x, x < (if m = 0 then (w + 1) / 2 else m) → GW μ.1 a b ta tb 0 c (2 * x + 0)) (3 ^ cn (ta ||| tb) 6))))) μ2) → WP X mX12_learnt 0 (lv_args 0 [.ref 86, .int (nI a), .int (nI m)]) [] μ1 Q' := by
                intro μ1 s1 h86 h55 r1 Q' k'
                have e15 : μ1.1 86 15 = μ.1 86 15 := by rw [h86 86 (by omega)]
                have e16 : μ1.1 86 16 = nI a := by rw [h86 86 (by omega)]; exact kp2
                have e17 : μ1.1 86 17 = nI b := by rw [h86 86 (by omega)]; exact kp4
                have e19 : μ1.1 86 19 = μ.1 86 19 := by rw [h86 86 (by omega)]
                have es1 : (μ1.1 86 19 + 1) / 2 = nI ((w + 1) / 2) := by rw [e19, l32, ← l31]; exact es
                have hW1 : I_wish μ1.1 := wish_c ⟨h86 _ (by omega), h86 _ (by omega), h86 _ (by omega), h86 _ (by omega)⟩ (fun y hy => ⟨h55 _ (by omega) (by omega), h55 _ (by omega) (by omega), h55 _ (by omega) (by omega)⟩) hW
                have hyy : ∀ y, (89 ≤ y ∧ y ≤ 91) ∨ (100 ≤ y ∧ y ≤ 102) ∨ (55 ≤ y ∧ y ≤ 70) → μ1.1 y = μ.1 y := fun y hy => if q : 86 ≤ y then h86 y q else h55 y (by omega) (by omega)
                refine wp_iload_n (pc := 0) dX12_learnt_0 (by first | rfl | assumption | (repeat first | assumption | rfl | refine aG_n ?_ rfl rfl)) ?_
                refine wp_cS (pc := 1) dX12_learnt_1 lk_12_143 rfl rfl rfl (c_X12_isHouse (fun _ => aK_i ?_) (fun q => absurd c1 q))
                refine wp_if_eq (pc := 4) (tgt := 11) dX12_learnt_4 rfl (fun q => absurd q (by decide)) (fun _ => ?_)
                refine wp_iload_n (pc := 7) dX12_learnt_7 (by first | rfl | assumption | (repeat first | assumption | rfl | refine aG_n ?_ rfl rfl)) ?_
                refine wp_if_ge (pc := 8) (tgt := 13) dX12_learnt_8 rfl (fun _ => ?_) (fun q => absurd c2' q)
                refine wp_aload_n (pc := 13) dX12_learnt_13 (by first | rfl | assumption | (repeat first | assumption | rfl | refine aG_n ?_ rfl rfl)) ?_
                refine wp_getI (pc := 14) dX12_learnt_14 fl_12_137 (by first | rfl | assumption | exact sh_house (by omega) | exact sh_wish (by omega) | exact sh_wor (by omega) | exact sh_bar (by omega) | exact sh_term (by omega) | exact sh_sheet (by omega) | exact sh_items (by omega) | exact sh_sums (by omega)) rfl ?_
                refine wp_if_ne (pc := 17) (tgt := 23) dX12_learnt_17 rfl (fun _ => ?_) (fun q => absurd q (by rw [e15]; exact c3))
                refine wp_iload_n (pc := 23) dX12_learnt_23 (by first | rfl | assumption | (repeat first | assumption | rfl | refine aG_n ?_ rfl rfl)) ?_
                refine wp_aload_n (pc := 24) dX12_learnt_24 (by first | rfl | assumption | (repeat first | assumption | rfl | refine aG_n ?_ rfl rfl)) ?_
                refine wp_getI (pc := 25) dX12_learnt_25 fl_12_235 (by first | rfl | assumption | exact sh_house (by omega) | exact sh_wish (by omega) | exact sh_wor (by omega) | exact sh_bar (by omega) | exact sh_term (by omega) | exact sh_sheet (by omega) | exact sh_items (by omega) | exact sh_sums (by omega)) rfl ?_
                refine wp_icmp_eq (pc := 28) (tgt := 39) dX12_learnt_28 rfl (fun _ => ?_) (fun q => absurd (by rw [e16]) q)
                refine wp_iload_n (pc := 39) dX12_learnt_39 (by first | rfl | assumption | (repeat first | assumption | rfl | refine aG_n ?_ rfl rfl)) ?_
                refine wp_aload_n (pc := 40) dX12_learnt_40 (by first | rfl | assumption | (repeat first | assumption | rfl | refine aG_n ?_ rfl rfl)) ?_
                refine wp_iload_n (pc := 41) dX12_learnt_41 (by first | rfl | assumption | (repeat first | assumption | rfl | refine aG_n ?_ rfl rfl)) ?_
                refine wp_cV (pc := 42) dX12_learnt_42 lk_12_301 rfl (by decide) rfl (by first | rfl | assumption | exact sh_house (by omega) | exact sh_wish (by omega) | exact sh_wor (by omega) | exact sh_bar (by omega) | exact sh_term (by omega) | exact sh_sheet (by omega) | exact sh_items (by omega) | exact sh_sums (by omega)) rfl rfl ?_
                refine wp_iload_n (pc := 0) dX12_saidBy_0 (by first | rfl | assumption | (repeat first | assumption | rfl | refine aG_n ?_ rfl rfl)) ?_
                refine wp_aload_n (pc := 1) dX12_saidBy_1 (by first | rfl | assumption | (repeat first | assumption | rfl | refine aG_n ?_ rfl rfl)) ?_
                refine wp_getI (pc := 2) dX12_saidBy_2 fl_12_235 (by first | rfl | assumption | exact sh_house (by omega) | exact sh_wish (by omega) | exact sh_wor (by omega) | exact sh_bar (by omega) | exact sh_term (by omega) | exact sh_sheet (by omega) | exact sh_items (by omega) | exact sh_sums (by omega)) rfl ?_
                refine wp_icmp_ne (pc := 5) (tgt := 19) dX12_saidBy_5 rfl (fun q => absurd (by rw [e16]) q) (fun _ => ?_)
                refine wp_aload_n (pc := 8) dX12_saidBy_8 (by first | rfl | assumption | (repeat first | assumption | rfl | refine aG_n ?_ rfl rfl)) ?_
                refine wp_getI (pc := 9) dX12_saidBy_9 fl_12_244 (by first | rfl | assumption | exact sh_house (by omega) | exact sh_wish (by omega) | exact sh_wor (by omega) | exact sh_bar (by omega) | exact sh_term (by omega) | exact sh_sheet (by omega) | exact sh_items (by omega) | exact sh_sums (by omega)) rfl ?_
                refine wp_iconst (pc := 12) (v := 1) dX12_saidBy_12 (by decide) ?_
                refine wp_iadd (pc := 13) dX12_saidBy_13 ?_
                refine wp_iconst (pc := 14) (v := 2) dX12_saidBy_14 (by decide) ?_
                refine wp_idiv (pc := 15) dX12_saidBy_15 (by decide) ?_
                refine wp_goto (pc := 16) (tgt := 25) dX12_saidBy_16 rfl ?_
                refine wp_iretK (pc := 25) dX12_saidBy_25 rfl (by first | rfl | decide | assumption) ?_
                refine wp_icmp_le (pc := 45) (tgt := 50) dX12_learnt_45 rfl (fun _ => ?_) (fun q => absurd (by rw [es1]; exact nI_le c5 (by omega)) q)
                skip
                refine m_count (m := m) (sd := (w + 1) / 2) (d := 0) hW1 (LK_s s1 r1 hL) (by decide) (fun x hx => by omega) c5 (by omega) (by rw [e19]; exact esm) rfl (fun z => absurd c6 (by omega)) (fun _ μ2 o2 => ?_) _ (by first | rfl | assumption | (repeat first | assumption | rfl | refine aG_n ?_ rfl rfl)) (by first | rfl | assumption | (repeat first | assumption | rfl | refine aG_n ?_ rfl rfl)) (by first | rfl | assumption | (repeat first | assumption | rfl | refine aG_n ?_ rfl rfl))
                rw [ctF_c (P := fun c => ∀ x, x < (if m = 0 then (w + 1) / 2 else m) → GW μ.1 a b ta tb 0 c (2 * x + 0)) _ (fun c _ => ⟨fun z x hx => (GW_c ha hb hyy (by rw [h86 86 (by omega)]) (by rw [h86 86 (by omega)])).mp (z x hx), fun z x hx => (GW_c ha hb hyy (by rw [h86 86 (by omega)]) (by rw [h86 86 (by omega)])).mpr (z x hx)⟩)]
                exact k' _ (Inv_A hI s1 r1 o2)
              by_cases m0 : m = 0
              · rw [if_pos m0] at mt hn hn31
                refine wp_iload_n (pc := 0) dX11_learnt_0 (by first | rfl | assumption | (repeat first | assumption | rfl | refine aG_n ?_ rfl rfl)) ?_
                refine wp_cS (pc := 1) dX11_learnt_1 lk_11_101 rfl rfl rfl (c_X11_isHouse (fun _ => aK_i ?_) (fun q => absurd c1 q))
                refine wp_if_eq (pc := 4) (tgt := 11) dX11_learnt_4 rfl (fun q => absurd q (by decide)) (fun _ => ?_)
                refine wp_iload_n (pc := 7) dX11_learnt_7 (by first | rfl | assumption | (repeat first | assumption | rfl | refine aG_n ?_ rfl rfl)) ?_
                refine wp_if_ge (pc := 8) (tgt := 13) dX11_learnt_8 rfl (fun _ => ?_) (fun q => absurd c2' q)
                refine wp_aload_n (pc := 13) dX11_learnt_13 (by first | rfl | assumption | (repeat first | assumption | rfl | refine aG_n ?_ rfl rfl)) ?_
                refine wp_getR (pc := 14) dX11_learnt_14 fl_11_92 (by first | rfl | assumption | exact sh_house (by omega) | exact sh_wish (by omega) | exact sh_wor (by omega) | exact sh_bar (by omega) | exact sh_term (by omega) | exact sh_sheet (by omega) | exact sh_items (by omega) | exact sh_sums (by omega)) rfl ?_
                refine wp_getI (pc := 17) dX11_learnt_17 fl_11_206 (by first | rfl | assumption | exact sh_house (by omega) | exact sh_wish (by omega) | exact sh_wor (by omega) | exact sh_bar (by omega) | exact sh_term (by omega) | exact sh_sheet (by omega) | exact sh_items (by omega) | exact sh_sums (by omega)) rfl ?_
                refine wp_if_ne (pc := 20) (tgt := 26) dX11_learnt_20 rfl (fun _ => ?_) (fun q => absurd q c3')
                refine wp_iload_n (pc := 26) dX11_learnt_26 (by first | rfl | assumption | (repeat first | assumption | rfl | refine aG_n ?_ rfl rfl)) ?_
                refine wp_aload_n (pc := 27) dX11_learnt_27 (by first | rfl | assumption | (repeat first | assumption | rfl | refine aG_n ?_ rfl rfl)) ?_
                refine wp_getR (pc := 28) dX11_learnt_28 fl_11_92 (by first | rfl | assumption | exact sh_house (by omega) | exact sh_wish (by omega) | exact sh_wor (by omega) | exact sh_bar (by omega) | exact sh_term (by omega) | exact sh_sheet (by omega) | exact sh_items (by omega) | exact sh_sums (by omega)) rfl ?_
                refine wp_getI (pc := 31) dX11_learnt_31 fl_11_218 (by first | rfl | assumption | exact sh_house (by omega) | exact sh_wish (by omega) | exact sh_wor (by omega) | exact sh_bar (by omega) | exact sh_term (by omega) | exact sh_sheet (by omega) | exact sh_items (by omega) | exact sh_sums (by omega)) rfl ?_
                refine wp_icmp_eq (pc := 34) (tgt := 50) dX11_learnt_34 rfl (fun _ => ?_) (fun q => absurd kp1.symm q)
                refine wp_iload_n (pc := 50) dX11_learnt_50 (by first | rfl | assumption | (repeat first | assumption | rfl | refine aG_n ?_ rfl rfl)) ?_
                refine wp_aload_n (pc := 51) dX11_learnt_51 (by first | rfl | assumption | (repeat first | assumption | rfl | refine aG_n ?_ rfl rfl)) ?_
                refine wp_getR (pc := 52) dX11_learnt_52 fl_11_92 (by first | rfl | assumption | exact sh_house (by omega) | exact sh_wish (by omega) | exact sh_wor (by omega) | exact sh_bar (by omega) | exact sh_term (by omega) | exact sh_sheet (by omega) | exact sh_items (by omega) | exact sh_sums (by omega)) rfl ?_
                refine wp_getI (pc := 55) dX11_learnt_55 fl_11_218 (by first | rfl | assumption | exact sh_house (by omega) | exact sh_wish (by omega) | exact sh_wor (by omega) | exact sh_bar (by omega) | exact sh_term (by omega) | exact sh_sheet (by omega) | exact sh_items (by omega) | exact sh_sums (by omega)) rfl ?_
                refine wp_icmp_ne (pc := 58) (tgt := 65) dX11_learnt_58 rfl (fun q => absurd kp1.symm q) (fun _ => ?_)
                refine wp_iconst (pc := 61) (v := 0) dX11_learnt_61 (by decide) ?_
                refine wp_goto (pc := 62) (tgt := 66) dX11_learnt_62 rfl ?_
                refine wp_istore_n (pc := 66) dX11_learnt_66 (by decide) ?_
                refine wp_aload_n (pc := 67) dX11_learnt_67 (by first | rfl | assumption | (repeat first | assumption | rfl | refine aG_n ?_ rfl rfl)) ?_
                refine wp_getR (pc := 68) dX11_learnt_68 fl_11_92 (by first | rfl | assumption | exact sh_house (by omega) | exact sh_wish (by omega) | exact sh_wor (by omega) | exact sh_bar (by omega) | exact sh_term (by omega) | exact sh_sheet (by omega) | exact sh_items (by omega) | exact sh_sums (by omega)) rfl ?_
                refine wp_iload_n (pc := 71) dX11_learnt_71 (by first | rfl | assumption | (repeat first | assumption | rfl | refine aG_n ?_ rfl rfl)) ?_
                refine wp_cV (pc := 72) dX11_learnt_72 lk_11_255 rfl (by decide) rfl (by first | rfl | assumption | exact sh_house (by omega) | exact sh_wish (by omega) | exact sh_wor (by omega) | exact sh_bar (by omega) | exact sh_term (by omega) | exact sh_sheet (by omega) | exact sh_items (by omega) | exact sh_sums (by omega)) rfl rfl ?_
                refine wp_iload_n (pc := 0) dX7_saidBy_0 (by first | rfl | assumption | (repeat first | assumption | rfl | refine aG_n ?_ rfl rfl)) ?_
                refine wp_if_ne (pc := 1) (tgt := 15) dX7_saidBy_1 rfl (fun q => absurd q (by decide)) (fun _ => ?_)
                refine wp_aload_n (pc := 4) dX7_saidBy_4 (by first | rfl | assumption | (repeat first | assumption | rfl | refine aG_n ?_ rfl rfl)) ?_
                refine wp_getI (pc := 5) dX7_saidBy_5 fl_7_38 (by first | rfl | assumption | exact sh_house (by omega) | exact sh_wish (by omega) | exact sh_wor (by omega) | exact sh_bar (by omega) | exact sh_term (by omega) | exact sh_sheet (by omega) | exact sh_items (by omega) | exact sh_sums (by omega)) rfl ?_
                refine wp_iconst (pc := 8) (v := 1) dX7_saidBy_8 (by decide) ?_
                refine wp_iadd (pc := 9) dX7_saidBy_9 ?_
                refine wp_iconst (pc := 10) (v := 2) dX7_saidBy_10 (by decide) ?_
                refine wp_idiv (pc := 11) dX7_saidBy_11 (by decide) ?_
                refine wp_goto (pc := 12) (tgt := 21) dX7_saidBy_12 rfl ?_
                refine wp_iretK (pc := 21) dX7_saidBy_21 rfl (by first | rfl | decide | assumption) ?_
                refine wp_istore (pc := 75) dX11_learnt_75 (by decide) ?_
                refine wp_iload_n (pc := 77) dX11_learnt_77 (by first | rfl | assumption | (repeat first | assumption | rfl | refine aG_n ?_ rfl rfl)) ?_
                refine wp_iload (pc := 78) dX11_learnt_78 (by first | rfl | assumption | (repeat first | assumption | rfl | refine aG_n ?_ rfl rfl)) ?_
                refine wp_icmp_le (pc := 80) (tgt := 85) dX11_learnt_80 rfl (fun _ => ?_) (fun q => absurd (by rw [es]; exact nI_le c5 (by omega)) q)
                refine wp_aload_n (pc := 85) dX11_learnt_85 (by first | rfl | assumption | (repeat first | assumption | rfl | refine aG_n ?_ rfl rfl)) ?_
                refine wp_getR (pc := 86) dX11_learnt_86 fl_11_92 (by first | rfl | assumption | exact sh_house (by omega) | exact sh_wish (by omega) | exact sh_wor (by omega) | exact sh_bar (by omega) | exact sh_term (by omega) | exact sh_sheet (by omega) | exact sh_items (by omega) | exact sh_sums (by omega)) rfl ?_
                refine wp_getR (pc := 89) dX11_learnt_89 fl_11_199 (by first | rfl | assumption | exact sh_house (by omega) | exact sh_wish (by omega) | exact sh_wor (by omega) | exact sh_bar (by omega) | exact sh_term (by omega) | exact sh_sheet (by omega) | exact sh_items (by omega) | exact sh_sums (by omega)) rfl ?_
                refine wp_cV (pc := 92) dX11_learnt_92 lk_11_258 rfl (by decide) rfl (by first | rfl | assumption | exact sh_house (by omega) | exact sh_wish (by omega) | exact sh_wor (by omega) | exact sh_bar (by omega) | exact sh_term (by omega) | exact sh_sheet (by omega) | exact sh_items (by omega) | exact sh_sums (by omega)) rfl rfl ?_
                refine wp_aload_n (pc := 0) dX4_pool_0 (by first | rfl | assumption | (repeat first | assumption | rfl | refine aG_n ?_ rfl rfl)) ?_
                refine wp_getI (pc := 1) dX4_pool_1 fl_4_21 (by first | rfl | assumption | exact sh_house (by omega) | exact sh_wish (by omega) | exact sh_wor (by omega) | exact sh_bar (by omega) | exact sh_term (by omega) | exact sh_sheet (by omega) | exact sh_items (by omega) | exact sh_sums (by omega)) rfl ?_
                refine wp_aload_n (pc := 4) dX4_pool_4 (by first | rfl | assumption | (repeat first | assumption | rfl | refine aG_n ?_ rfl rfl)) ?_
                refine wp_getI (pc := 5) dX4_pool_5 fl_4_24 (by first | rfl | assumption | exact sh_house (by omega) | exact sh_wish (by omega) | exact sh_wor (by omega) | exact sh_bar (by omega) | exact sh_term (by omega) | exact sh_sheet (by omega) | exact sh_items (by omega) | exact sh_sums (by omega)) rfl ?_
                refine wp_ior (pc := 8) dX4_pool_8 ?_
                refine wp_iretK (pc := 9) dX4_pool_9 rfl (by first | rfl | decide | assumption) ?_
                refine wp_cS (pc := 95) dX11_learnt_95 lk_11_261 rfl rfl rfl ?_
                rw [ep]
                refine c_bitc hp ?_
                rw [epc]
                refine aK_i ?_
                refine wp_iconst (pc := 98) (v := 4) dX11_learnt_98 (by decide) ?_
                refine wp_icmp_le (pc := 99) (tgt := 105) dX11_learnt_99 rfl (fun _ => ?_) (fun q => absurd (nI_le (b := 4) c6 (by omega)) q)
                refine wp_aload_n (pc := 105) dX11_learnt_105 (by first | rfl | assumption | (repeat first | assumption | rfl | refine aG_n ?_ rfl rfl)) ?_
                refine wp_iload_n (pc := 106) dX11_learnt_106 (by first | rfl | assumption | (repeat first | assumption | rfl | refine aG_n ?_ rfl rfl)) ?_
                refine wp_iload_n (pc := 107) dX11_learnt_107 (by first | rfl | assumption | (repeat first | assumption | rfl | refine aG_n ?_ rfl rfl)) ?_
                refine wp_iload_n (pc := 108) dX11_learnt_108 (by first | rfl | assumption | (repeat first | assumption | rfl | refine aG_n ?_ rfl rfl)) ?_
                refine wp_if_ne (pc := 109) (tgt := 117) dX11_learnt_109 rfl (fun q => absurd (by rw [m0]; rfl) q) (fun _ => ?_)
                refine wp_iload (pc := 112) dX11_learnt_112 (by first | rfl | assumption | (repeat first | assumption | rfl | refine aG_n ?_ rfl rfl)) ?_
                refine wp_goto (pc := 114) (tgt := 118) dX11_learnt_114 rfl ?_
                refine wp_cV (pc := 118) dX11_learnt_118 lk_11_266 rfl (by decide) rfl (by first | rfl | assumption | exact sh_house (by omega) | exact sh_wish (by omega) | exact sh_wor (by omega) | exact sh_bar (by omega) | exact sh_term (by omega) | exact sh_sheet (by omega) | exact sh_items (by omega) | exact sh_sums (by omega)) rfl rfl ?_
                rw [es]
                refine c_X11_countGuesses (d := 0) hL (by decide) hn hn31 hW hV (fun μ1 s1 h86 h55 r1 => aK_i ?_)
                refine wp_ireturn (pc := 121) dX11_learnt_121 rfl (by first | rfl | decide | assumption) ?_
                exact k _ _ (mt μ1 s1 h86 h55 r1)
              · rw [if_neg m0] at mt hn hn31
                refine wp_iload_n (pc := 0) dX11_learnt_0 (by first | rfl | assumption | (repeat first | assumption | rfl | refine aG_n ?_ rfl rfl)) ?_
                refine wp_cS (pc := 1) dX11_learnt_1 lk_11_101 rfl rfl rfl (c_X11_isHouse (fun _ => aK_i ?_) (fun q => absurd c1 q))
                refine wp_if_eq (pc := 4) (tgt := 11) dX11_learnt_4 rfl (fun q => absurd q (by decide)) (fun _ => ?_)
                refine wp_iload_n (pc := 7) dX11_learnt_7 (by first | rfl | assumption | (repeat first | assumption | rfl | refine aG_n ?_ rfl rfl)) ?_
                refine wp_if_ge (pc := 8) (tgt := 13) dX11_learnt_8 rfl (fun _ => ?_) (fun q => absurd c2' q)
                refine wp_aload_n (pc := 13) dX11_learnt_13 (by first | rfl | assumption | (repeat first | assumption | rfl | refine aG_n ?_ rfl rfl)) ?_
                refine wp_getR (pc := 14) dX11_learnt_14 fl_11_92 (by first | rfl | assumption | exact sh_house (by omega) | exact sh_wish (by omega) | exact sh_wor (by omega) | exact sh_bar (by omega) | exact sh_term (by omega) | exact sh_sheet (by omega) | exact sh_items (by omega) | exact sh_sums (by omega)) rfl ?_
                refine wp_getI (pc := 17) dX11_learnt_17 fl_11_206 (by first | rfl | assumption | exact sh_house (by omega) | exact sh_wish (by omega) | exact sh_wor (by omega) | exact sh_bar (by omega) | exact sh_term (by omega) | exact sh_sheet (by omega) | exact sh_items (by omega) | exact sh_sums (by omega)) rfl ?_
                refine wp_if_ne (pc := 20) (tgt := 26) dX11_learnt_20 rfl (fun _ => ?_) (fun q => absurd q c3')
                refine wp_iload_n (pc := 26) dX11_learnt_26 (by first | rfl | assumption | (repeat first | assumption | rfl | refine aG_n ?_ rfl rfl)) ?_
                refine wp_aload_n (pc := 27) dX11_learnt_27 (by first | rfl | assumption | (repeat first | assumption | rfl | refine aG_n ?_ rfl rfl)) ?_
                refine wp_getR (pc := 28) dX11_learnt_28 fl_11_92 (by first | rfl | assumption | exact sh_house (by omega) | exact sh_wish (by omega) | exact sh_wor (by omega) | exact sh_bar (by omega) | exact sh_term (by omega) | exact sh_sheet (by omega) | exact sh_items (by omega) | exact sh_sums (by omega)) rfl ?_
                refine wp_getI (pc := 31) dX11_learnt_31 fl_11_218 (by first | rfl | assumption | exact sh_house (by omega) | exact sh_wish (by omega) | exact sh_wor (by omega) | exact sh_bar (by omega) | exact sh_term (by omega) | exact sh_sheet (by omega) | exact sh_items (by omega) | exact sh_sums (by omega)) rfl ?_
                refine wp_icmp_eq (pc := 34) (tgt := 50) dX11_learnt_34 rfl (fun _ => ?_) (fun q => absurd kp1.symm q)
                refine wp_iload_n (pc := 50) dX11_learnt_50 (by first | rfl | assumption | (repeat first | assumption | rfl | refine aG_n ?_ rfl rfl)) ?_
                refine wp_aload_n (pc := 51) dX11_learnt_51 (by first | rfl | assumption | (repeat first | assumption | rfl | refine aG_n ?_ rfl rfl)) ?_
                refine wp_getR (pc := 52) dX11_learnt_52 fl_11_92 (by first | rfl | assumption | exact sh_house (by omega) | exact sh_wish (by omega) | exact sh_wor (by omega) | exact sh_bar (by omega) | exact sh_term (by omega) | exact sh_sheet (by omega) | exact sh_items (by omega) | exact sh_sums (by omega)) rfl ?_
                refine wp_getI (pc := 55) dX11_learnt_55 fl_11_218 (by first | rfl | assumption | exact sh_house (by omega) | exact sh_wish (by omega) | exact sh_wor (by omega) | exact sh_bar (by omega) | exact sh_term (by omega) | exact sh_sheet (by omega) | exact sh_items (by omega) | exact sh_sums (by omega)) rfl ?_
                refine wp_icmp_ne (pc := 58) (tgt := 65) dX11_learnt_58 rfl (fun q => absurd kp1.symm q) (fun _ => ?_)
                refine wp_iconst (pc := 61) (v := 0) dX11_learnt_61 (by decide) ?_
                refine wp_goto (pc := 62) (tgt := 66) dX11_learnt_62 rfl ?_
                refine wp_istore_n (pc := 66) dX11_learnt_66 (by decide) ?_
                refine wp_aload_n (pc := 67) dX11_learnt_67 (by first | rfl | assumption | (repeat first | assumption | rfl | refine aG_n ?_ rfl rfl)) ?_
                refine wp_getR (pc := 68) dX11_learnt_68 fl_11_92 (by first | rfl | assumption | exact sh_house (by omega) | exact sh_wish (by omega) | exact sh_wor (by omega) | exact sh_bar (by omega) | exact sh_term (by omega) | exact sh_sheet (by omega) | exact sh_items (by omega) | exact sh_sums (by omega)) rfl ?_
                refine wp_iload_n (pc := 71) dX11_learnt_71 (by first | rfl | assumption | (repeat first | assumption | rfl | refine aG_n ?_ rfl rfl)) ?_
                refine wp_cV (pc := 72) dX11_learnt_72 lk_11_255 rfl (by decide) rfl (by first | rfl | assumption | exact sh_house (by omega) | exact sh_wish (by omega) | exact sh_wor (by omega) | exact sh_bar (by omega) | exact sh_term (by omega) | exact sh_sheet (by omega) | exact sh_items (by omega) | exact sh_sums (by omega)) rfl rfl ?_
                refine wp_iload_n (pc := 0) dX7_saidBy_0 (by first | rfl | assumption | (repeat first | assumption | rfl | refine aG_n ?_ rfl rfl)) ?_
                refine wp_if_ne (pc := 1) (tgt := 15) dX7_saidBy_1 rfl (fun q => absurd q (by decide)) (fun _ => ?_)
                refine wp_aload_n (pc := 4) dX7_saidBy_4 (by first | rfl | assumption | (repeat first | assumption | rfl | refine aG_n ?_ rfl rfl)) ?_
                refine wp_getI (pc := 5) dX7_saidBy_5 fl_7_38 (by first | rfl | assumption | exact sh_house (by omega) | exact sh_wish (by omega) | exact sh_wor (by omega) | exact sh_bar (by omega) | exact sh_term (by omega) | exact sh_sheet (by omega) | exact sh_items (by omega) | exact sh_sums (by omega)) rfl ?_
                refine wp_iconst (pc := 8) (v := 1) dX7_saidBy_8 (by decide) ?_
                refine wp_iadd (pc := 9) dX7_saidBy_9 ?_
                refine wp_iconst (pc := 10) (v := 2) dX7_saidBy_10 (by decide) ?_
                refine wp_idiv (pc := 11) dX7_saidBy_11 (by decide) ?_
                refine wp_goto (pc := 12) (tgt := 21) dX7_saidBy_12 rfl ?_
                refine wp_iretK (pc := 21) dX7_saidBy_21 rfl (by first | rfl | decide | assumption) ?_
                refine wp_istore (pc := 75) dX11_learnt_75 (by decide) ?_
                refine wp_iload_n (pc := 77) dX11_learnt_77 (by first | rfl | assumption | (repeat first | assumption | rfl | refine aG_n ?_ rfl rfl)) ?_
                refine wp_iload (pc := 78) dX11_learnt_78 (by first | rfl | assumption | (repeat first | assumption | rfl | refine aG_n ?_ rfl rfl)) ?_
                refine wp_icmp_le (pc := 80) (tgt := 85) dX11_learnt_80 rfl (fun _ => ?_) (fun q => absurd (by rw [es]; exact nI_le c5 (by omega)) q)
                refine wp_aload_n (pc := 85) dX11_learnt_85 (by first | rfl | assumption | (repeat first | assumption | rfl | refine aG_n ?_ rfl rfl)) ?_
                refine wp_getR (pc := 86) dX11_learnt_86 fl_11_92 (by first | rfl | assumption | exact sh_house (by omega) | exact sh_wish (by omega) | exact sh_wor (by omega) | exact sh_bar (by omega) | exact sh_term (by omega) | exact sh_sheet (by omega) | exact sh_items (by omega) | exact sh_sums (by omega)) rfl ?_
                refine wp_getR (pc := 89) dX11_learnt_89 fl_11_199 (by first | rfl | assumption | exact sh_house (by omega) | exact sh_wish (by omega) | exact sh_wor (by omega) | exact sh_bar (by omega) | exact sh_term (by omega) | exact sh_sheet (by omega) | exact sh_items (by omega) | exact sh_sums (by omega)) rfl ?_
                refine wp_cV (pc := 92) dX11_learnt_92 lk_11_258 rfl (by decide) rfl (by first | rfl | assumption | exact sh_house (by omega) | exact sh_wish (by omega) | exact sh_wor (by omega) | exact sh_bar (by omega) | exact sh_term (by omega) | exact sh_sheet (by omega) | exact sh_items (by omega) | exact sh_sums (by omega)) rfl rfl ?_
                refine wp_aload_n (pc := 0) dX4_pool_0 (by first | rfl | assumption | (repeat first | assumption | rfl | refine aG_n ?_ rfl rfl)) ?_
                refine wp_getI (pc := 1) dX4_pool_1 fl_4_21 (by first | rfl | assumption | exact sh_house (by omega) | exact sh_wish (by omega) | exact sh_wor (by omega) | exact sh_bar (by omega) | exact sh_term (by omega) | exact sh_sheet (by omega) | exact sh_items (by omega) | exact sh_sums (by omega)) rfl ?_
                refine wp_aload_n (pc := 4) dX4_pool_4 (by first | rfl | assumption | (repeat first | assumption | rfl | refine aG_n ?_ rfl rfl)) ?_
                refine wp_getI (pc := 5) dX4_pool_5 fl_4_24 (by first | rfl | assumption | exact sh_house (by omega) | exact sh_wish (by omega) | exact sh_wor (by omega) | exact sh_bar (by omega) | exact sh_term (by omega) | exact sh_sheet (by omega) | exact sh_items (by omega) | exact sh_sums (by omega)) rfl ?_
                refine wp_ior (pc := 8) dX4_pool_8 ?_
                refine wp_iretK (pc := 9) dX4_pool_9 rfl (by first | rfl | decide | assumption) ?_
                refine wp_cS (pc := 95) dX11_learnt_95 lk_11_261 rfl rfl rfl ?_
                rw [ep]
                refine c_bitc hp ?_
                rw [epc]
                refine aK_i ?_
                refine wp_iconst (pc := 98) (v := 4) dX11_learnt_98 (by decide) ?_
                refine wp_icmp_le (pc := 99) (tgt := 105) dX11_learnt_99 rfl (fun _ => ?_) (fun q => absurd (nI_le (b := 4) c6 (by omega)) q)
                refine wp_aload_n (pc := 105) dX11_learnt_105 (by first | rfl | assumption | (repeat first | assumption | rfl | refine aG_n ?_ rfl rfl)) ?_
                refine wp_iload_n (pc := 106) dX11_learnt_106 (by first | rfl | assumption | (repeat first | assumption | rfl | refine aG_n ?_ rfl rfl)) ?_
                refine wp_iload_n (pc := 107) dX11_learnt_107 (by first | rfl | assumption | (repeat first | assumption | rfl | refine aG_n ?_ rfl rfl)) ?_
                refine wp_iload_n (pc := 108) dX11_learnt_108 (by first | rfl | assumption | (repeat first | assumption | rfl | refine aG_n ?_ rfl rfl)) ?_
                refine wp_if_ne (pc := 109) (tgt := 117) dX11_learnt_109 rfl (fun _ => ?_) (fun q => absurd q (nI_ne0 (by omega) (by omega)))
                refine wp_iload_n (pc := 117) dX11_learnt_117 (by first | rfl | assumption | (repeat first | assumption | rfl | refine aG_n ?_ rfl rfl)) ?_
                refine wp_cV (pc := 118) dX11_learnt_118 lk_11_266 rfl (by decide) rfl (by first | rfl | assumption | exact sh_house (by omega) | exact sh_wish (by omega) | exact sh_wor (by omega) | exact sh_bar (by omega) | exact sh_term (by omega) | exact sh_sheet (by omega) | exact sh_items (by omega) | exact sh_sums (by omega)) rfl rfl ?_
                refine c_X11_countGuesses (d := 0) hL (by decide) hn hn31 hW hV (fun μ1 s1 h86 h55 r1 => aK_i ?_)
                refine wp_ireturn (pc := 121) dX11_learnt_121 rfl (by first | rfl | decide | assumption) ?_
                exact k _ _ (mt μ1 s1 h86 h55 r1)
            · refine wp_iload_n (pc := 0) dX11_learnt_0 (by first | rfl | assumption | (repeat first | assumption | rfl | refine aG_n ?_ rfl rfl)) ?_
              refine wp_cS (pc := 1) dX11_learnt_1 lk_11_101 rfl rfl rfl (c_X11_isHouse (fun _ => aK_i ?_) (fun q => absurd c1 q))
              refine wp_if_eq (pc := 4) (tgt := 11) dX11_learnt_4 rfl (fun q => absurd q (by decide)) (fun _ => ?_)
              refine wp_iload_n (pc := 7) dX11_learnt_7 (by first | rfl | assumption | (repeat first | assumption | rfl | refine aG_n ?_ rfl rfl)) ?_
              refine wp_if_ge (pc := 8) (tgt := 13) dX11_learnt_8 rfl (fun _ => ?_) (fun q => absurd c2' q)
              refine wp_aload_n (pc := 13) dX11_learnt_13 (by first | rfl | assumption | (repeat first | assumption | rfl | refine aG_n ?_ rfl rfl)) ?_
              refine wp_getR (pc := 14) dX11_learnt_14 fl_11_92 (by first | rfl | assumption | exact sh_house (by omega) | exact sh_wish (by omega) | exact sh_wor (by omega) | exact sh_bar (by omega) | exact sh_term (by omega) | exact sh_sheet (by omega) | exact sh_items (by omega) | exact sh_sums (by omega)) rfl ?_
              refine wp_getI (pc := 17) dX11_learnt_17 fl_11_206 (by first | rfl | assumption | exact sh_house (by omega) | exact sh_wish (by omega) | exact sh_wor (by omega) | exact sh_bar (by omega) | exact sh_term (by omega) | exact sh_sheet (by omega) | exact sh_items (by omega) | exact sh_sums (by omega)) rfl ?_
              refine wp_if_ne (pc := 20) (tgt := 26) dX11_learnt_20 rfl (fun _ => ?_) (fun q => absurd q c3')
              refine wp_iload_n (pc := 26) dX11_learnt_26 (by first | rfl | assumption | (repeat first | assumption | rfl | refine aG_n ?_ rfl rfl)) ?_
              refine wp_aload_n (pc := 27) dX11_learnt_27 (by first | rfl | assumption | (repeat first | assumption | rfl | refine aG_n ?_ rfl rfl)) ?_
              refine wp_getR (pc := 28) dX11_learnt_28 fl_11_92 (by first | rfl | assumption | exact sh_house (by omega) | exact sh_wish (by omega) | exact sh_wor (by omega) | exact sh_bar (by omega) | exact sh_term (by omega) | exact sh_sheet (by omega) | exact sh_items (by omega) | exact sh_sums (by omega)) rfl ?_
              refine wp_getI (pc := 31) dX11_learnt_31 fl_11_218 (by first | rfl | assumption | exact sh_house (by omega) | exact sh_wish (by omega) | exact sh_wor (by omega) | exact sh_bar (by omega) | exact sh_term (by omega) | exact sh_sheet (by omega) | exact sh_items (by omega) | exact sh_sums (by omega)) rfl ?_
              refine wp_icmp_eq (pc := 34) (tgt := 50) dX11_learnt_34 rfl (fun _ => ?_) (fun q => absurd kp1.symm q)
              refine wp_iload_n (pc := 50) dX11_learnt_50 (by first | rfl | assumption | (repeat first | assumption | rfl | refine aG_n ?_ rfl rfl)) ?_
              refine wp_aload_n (pc := 51) dX11_learnt_51 (by first | rfl | assumption | (repeat first | assumption | rfl | refine aG_n ?_ rfl rfl)) ?_
              refine wp_getR (pc := 52) dX11_learnt_52 fl_11_92 (by first | rfl | assumption | exact sh_house (by omega) | exact sh_wish (by omega) | exact sh_wor (by omega) | exact sh_bar (by omega) | exact sh_term (by omega) | exact sh_sheet (by omega) | exact sh_items (by omega) | exact sh_sums (by omega)) rfl ?_
              refine wp_getI (pc := 55) dX11_learnt_55 fl_11_218 (by first | rfl | assumption | exact sh_house (by omega) | exact sh_wish (by omega) | exact sh_wor (by omega) | exact sh_bar (by omega) | exact sh_term (by omega) | exact sh_sheet (by omega) | exact sh_items (by omega) | exact sh_sums (by omega)) rfl ?_
              refine wp_icmp_ne (pc := 58) (tgt := 65) dX11_learnt_58 rfl (fun q => absurd kp1.symm q) (fun _ => ?_)
              refine wp_iconst (pc := 61) (v := 0) dX11_learnt_61 (by decide) ?_
              refine wp_goto (pc := 62) (tgt := 66) dX11_learnt_62 rfl ?_
              refine wp_istore_n (pc := 66) dX11_learnt_66 (by decide) ?_
              refine wp_aload_n (pc := 67) dX11_learnt_67 (by first | rfl | assumption | (repeat first | assumption | rfl | refine aG_n ?_ rfl rfl)) ?_
              refine wp_getR (pc := 68) dX11_learnt_68 fl_11_92 (by first | rfl | assumption | exact sh_house (by omega) | exact sh_wish (by omega) | exact sh_wor (by omega) | exact sh_bar (by omega) | exact sh_term (by omega) | exact sh_sheet (by omega) | exact sh_items (by omega) | exact sh_sums (by omega)) rfl ?_
              refine wp_iload_n (pc := 71) dX11_learnt_71 (by first | rfl | assumption | (repeat first | assumption | rfl | refine aG_n ?_ rfl rfl)) ?_
              refine wp_cV (pc := 72) dX11_learnt_72 lk_11_255 rfl (by decide) rfl (by first | rfl | assumption | exact sh_house (by omega) | exact sh_wish (by omega) | exact sh_wor (by omega) | exact sh_bar (by omega) | exact sh_term (by omega) | exact sh_sheet (by omega) | exact sh_items (by omega) | exact sh_sums (by omega)) rfl rfl ?_
              refine wp_iload_n (pc := 0) dX7_saidBy_0 (by first | rfl | assumption | (repeat first | assumption | rfl | refine aG_n ?_ rfl rfl)) ?_
              refine wp_if_ne (pc := 1) (tgt := 15) dX7_saidBy_1 rfl (fun q => absurd q (by decide)) (fun _ => ?_)
              refine wp_aload_n (pc := 4) dX7_saidBy_4 (by first | rfl | assumption | (repeat first | assumption | rfl | refine aG_n ?_ rfl rfl)) ?_
              refine wp_getI (pc := 5) dX7_saidBy_5 fl_7_38 (by first | rfl | assumption | exact sh_house (by omega) | exact sh_wish (by omega) | exact sh_wor (by omega) | exact sh_bar (by omega) | exact sh_term (by omega) | exact sh_sheet (by omega) | exact sh_items (by omega) | exact sh_sums (by omega)) rfl ?_
              refine wp_iconst (pc := 8) (v := 1) dX7_saidBy_8 (by decide) ?_
              refine wp_iadd (pc := 9) dX7_saidBy_9 ?_
              refine wp_iconst (pc := 10) (v := 2) dX7_saidBy_10 (by decide) ?_
              refine wp_idiv (pc := 11) dX7_saidBy_11 (by decide) ?_
              refine wp_goto (pc := 12) (tgt := 21) dX7_saidBy_12 rfl ?_
              refine wp_iretK (pc := 21) dX7_saidBy_21 rfl (by first | rfl | decide | assumption) ?_
              refine wp_istore (pc := 75) dX11_learnt_75 (by decide) ?_
              refine wp_iload_n (pc := 77) dX11_learnt_77 (by first | rfl | assumption | (repeat first | assumption | rfl | refine aG_n ?_ rfl rfl)) ?_
              refine wp_iload (pc := 78) dX11_learnt_78 (by first | rfl | assumption | (repeat first | assumption | rfl | refine aG_n ?_ rfl rfl)) ?_
              refine wp_icmp_le (pc := 80) (tgt := 85) dX11_learnt_80 rfl (fun _ => ?_) (fun q => absurd (by rw [es]; exact nI_le c5 (by omega)) q)
              refine wp_aload_n (pc := 85) dX11_learnt_85 (by first | rfl | assumption | (repeat first | assumption | rfl | refine aG_n ?_ rfl rfl)) ?_
              refine wp_getR (pc := 86) dX11_learnt_86 fl_11_92 (by first | rfl | assumption | exact sh_house (by omega) | exact sh_wish (by omega) | exact sh_wor (by omega) | exact sh_bar (by omega) | exact sh_term (by omega) | exact sh_sheet (by omega) | exact sh_items (by omega) | exact sh_sums (by omega)) rfl ?_
              refine wp_getR (pc := 89) dX11_learnt_89 fl_11_199 (by first | rfl | assumption | exact sh_house (by omega) | exact sh_wish (by omega) | exact sh_wor (by omega) | exact sh_bar (by omega) | exact sh_term (by omega) | exact sh_sheet (by omega) | exact sh_items (by omega) | exact sh_sums (by omega)) rfl ?_
              refine wp_cV (pc := 92) dX11_learnt_92 lk_11_258 rfl (by decide) rfl (by first | rfl | assumption | exact sh_house (by omega) | exact sh_wish (by omega) | exact sh_wor (by omega) | exact sh_bar (by omega) | exact sh_term (by omega) | exact sh_sheet (by omega) | exact sh_items (by omega) | exact sh_sums (by omega)) rfl rfl ?_
              refine wp_aload_n (pc := 0) dX4_pool_0 (by first | rfl | assumption | (repeat first | assumption | rfl | refine aG_n ?_ rfl rfl)) ?_
              refine wp_getI (pc := 1) dX4_pool_1 fl_4_21 (by first | rfl | assumption | exact sh_house (by omega) | exact sh_wish (by omega) | exact sh_wor (by omega) | exact sh_bar (by omega) | exact sh_term (by omega) | exact sh_sheet (by omega) | exact sh_items (by omega) | exact sh_sums (by omega)) rfl ?_
              refine wp_aload_n (pc := 4) dX4_pool_4 (by first | rfl | assumption | (repeat first | assumption | rfl | refine aG_n ?_ rfl rfl)) ?_
              refine wp_getI (pc := 5) dX4_pool_5 fl_4_24 (by first | rfl | assumption | exact sh_house (by omega) | exact sh_wish (by omega) | exact sh_wor (by omega) | exact sh_bar (by omega) | exact sh_term (by omega) | exact sh_sheet (by omega) | exact sh_items (by omega) | exact sh_sums (by omega)) rfl ?_
              refine wp_ior (pc := 8) dX4_pool_8 ?_
              refine wp_iretK (pc := 9) dX4_pool_9 rfl (by first | rfl | decide | assumption) ?_
              refine wp_cS (pc := 95) dX11_learnt_95 lk_11_261 rfl rfl rfl ?_
              rw [ep]
              refine c_bitc hp ?_
              rw [epc]
              refine aK_i ?_
              refine wp_iconst (pc := 98) (v := 4) dX11_learnt_98 (by decide) ?_
              refine wp_icmp_le (pc := 99) (tgt := 105) dX11_learnt_99 rfl (fun q => absurd q (nI_ge (a := 4) (by omega) (by omega))) (fun _ => ?_)
              refine wp_bipush (pc := 102) (v := -2) dX11_learnt_102 (by decide) ?_
              refine wp_ireturn (pc := 104) dX11_learnt_104 rfl (by first | rfl | decide | assumption) ?_
              refine k _ _ (fun Q' k' => ?_)
              refine wp_iload_n (pc := 0) dX12_learnt_0 (by first | rfl | assumption | (repeat first | assumption | rfl | refine aG_n ?_ rfl rfl)) ?_
              refine wp_cS (pc := 1) dX12_learnt_1 lk_12_143 rfl rfl rfl (c_X12_isHouse (fun _ => aK_i ?_) (fun q => absurd c1 q))
              refine wp_if_eq (pc := 4) (tgt := 11) dX12_learnt_4 rfl (fun q => absurd q (by decide)) (fun _ => ?_)
              refine wp_iload_n (pc := 7) dX12_learnt_7 (by first | rfl | assumption | (repeat first | assumption | rfl | refine aG_n ?_ rfl rfl)) ?_
              refine wp_if_ge (pc := 8) (tgt := 13) dX12_learnt_8 rfl (fun _ => ?_) (fun q => absurd c2' q)
              refine wp_aload_n (pc := 13) dX12_learnt_13 (by first | rfl | assumption | (repeat first | assumption | rfl | refine aG_n ?_ rfl rfl)) ?_
              refine wp_getI (pc := 14) dX12_learnt_14 fl_12_137 (by first | rfl | assumption | exact sh_house (by omega) | exact sh_wish (by omega) | exact sh_wor (by omega) | exact sh_bar (by omega) | exact sh_term (by omega) | exact sh_sheet (by omega) | exact sh_items (by omega) | exact sh_sums (by omega)) rfl ?_
              refine wp_if_ne (pc := 17) (tgt := 23) dX12_learnt_17 rfl (fun _ => ?_) (fun q => absurd q c3)
              refine wp_iload_n (pc := 23) dX12_learnt_23 (by first | rfl | assumption | (repeat first | assumption | rfl | refine aG_n ?_ rfl rfl)) ?_
              refine wp_aload_n (pc := 24) dX12_learnt_24 (by first | rfl | assumption | (repeat first | assumption | rfl | refine aG_n ?_ rfl rfl)) ?_
              refine wp_getI (pc := 25) dX12_learnt_25 fl_12_235 (by first | rfl | assumption | exact sh_house (by omega) | exact sh_wish (by omega) | exact sh_wor (by omega) | exact sh_bar (by omega) | exact sh_term (by omega) | exact sh_sheet (by omega) | exact sh_items (by omega) | exact sh_sums (by omega)) rfl ?_
              refine wp_icmp_eq (pc := 28) (tgt := 39) dX12_learnt_28 rfl (fun _ => ?_) (fun q => absurd (by rw [kp2]) q)
              refine wp_iload_n (pc := 39) dX12_learnt_39 (by first | rfl | assumption | (repeat first | assumption | rfl | refine aG_n ?_ rfl rfl)) ?_
              refine wp_aload_n (pc := 40) dX12_learnt_40 (by first | rfl | assumption | (repeat first | assumption | rfl | refine aG_n ?_ rfl rfl)) ?_
              refine wp_iload_n (pc := 41) dX12_learnt_41 (by first | rfl | assumption | (repeat first | assumption | rfl | refine aG_n ?_ rfl rfl)) ?_
              refine wp_cV (pc := 42) dX12_learnt_42 lk_12_301 rfl (by decide) rfl (by first | rfl | assumption | exact sh_house (by omega) | exact sh_wish (by omega) | exact sh_wor (by omega) | exact sh_bar (by omega) | exact sh_term (by omega) | exact sh_sheet (by omega) | exact sh_items (by omega) | exact sh_sums (by omega)) rfl rfl ?_
              refine wp_iload_n (pc := 0) dX12_saidBy_0 (by first | rfl | assumption | (repeat first | assumption | rfl | refine aG_n ?_ rfl rfl)) ?_
              refine wp_aload_n (pc := 1) dX12_saidBy_1 (by first | rfl | assumption | (repeat first | assumption | rfl | refine aG_n ?_ rfl rfl)) ?_
              refine wp_getI (pc := 2) dX12_saidBy_2 fl_12_235 (by first | rfl | assumption | exact sh_house (by omega) | exact sh_wish (by omega) | exact sh_wor (by omega) | exact sh_bar (by omega) | exact sh_term (by omega) | exact sh_sheet (by omega) | exact sh_items (by omega) | exact sh_sums (by omega)) rfl ?_
              refine wp_icmp_ne (pc := 5) (tgt := 19) dX12_saidBy_5 rfl (fun q => absurd (by rw [kp2]) q) (fun _ => ?_)
              refine wp_aload_n (pc := 8) dX12_saidBy_8 (by first | rfl | assumption | (repeat first | assumption | rfl | refine aG_n ?_ rfl rfl)) ?_
              refine wp_getI (pc := 9) dX12_saidBy_9 fl_12_244 (by first | rfl | assumption | exact sh_house (by omega) | exact sh_wish (by omega) | exact sh_wor (by omega) | exact sh_bar (by omega) | exact sh_term (by omega) | exact sh_sheet (by omega) | exact sh_items (by omega) | exact sh_sums (by omega)) rfl ?_
              refine wp_iconst (pc := 12) (v := 1) dX12_saidBy_12 (by decide) ?_
              refine wp_iadd (pc := 13) dX12_saidBy_13 ?_
              refine wp_iconst (pc := 14) (v := 2) dX12_saidBy_14 (by decide) ?_
              refine wp_idiv (pc := 15) dX12_saidBy_15 (by decide) ?_
              refine wp_goto (pc := 16) (tgt := 25) dX12_saidBy_16 rfl ?_
              refine wp_iretK (pc := 25) dX12_saidBy_25 rfl (by first | rfl | decide | assumption) ?_
              refine wp_icmp_le (pc := 45) (tgt := 50) dX12_learnt_45 rfl (fun _ => ?_) (fun q => absurd (by rw [l32, ← l31, es]; exact nI_le c5 (by omega)) q)
              skip
              exact m_count (m := m) (sd := (w + 1) / 2) (d := 0) hW hL (by decide) (fun x hx => by omega) c5 (by omega) esm rfl (fun _ μ2 o2 => k' _ (Inv_A hI Smm.rfl rfl o2)) (fun z => absurd z c6) _ (by first | rfl | assumption | (repeat first | assumption | rfl | refine aG_n ?_ rfl rfl)) (by first | rfl | assumption | (repeat first | assumption | rfl | refine aG_n ?_ rfl rfl)) (by first | rfl | assumption | (repeat first | assumption | rfl | refine aG_n ?_ rfl rfl))
          · refine wp_iload_n (pc := 0) dX11_learnt_0 (by first | rfl | assumption | (repeat first | assumption | rfl | refine aG_n ?_ rfl rfl)) ?_
            refine wp_cS (pc := 1) dX11_learnt_1 lk_11_101 rfl rfl rfl (c_X11_isHouse (fun _ => aK_i ?_) (fun q => absurd c1 q))
            refine wp_if_eq (pc := 4) (tgt := 11) dX11_learnt_4 rfl (fun q => absurd q (by decide)) (fun _ => ?_)
            refine wp_iload_n (pc := 7) dX11_learnt_7 (by first | rfl | assumption | (repeat first | assumption | rfl | refine aG_n ?_ rfl rfl)) ?_
            refine wp_if_ge (pc := 8) (tgt := 13) dX11_learnt_8 rfl (fun _ => ?_) (fun q => absurd c2' q)
            refine wp_aload_n (pc := 13) dX11_learnt_13 (by first | rfl | assumption | (repeat first | assumption | rfl | refine aG_n ?_ rfl rfl)) ?_
            refine wp_getR (pc := 14) dX11_learnt_14 fl_11_92 (by first | rfl | assumption | exact sh_house (by omega) | exact sh_wish (by omega) | exact sh_wor (by omega) | exact sh_bar (by omega) | exact sh_term (by omega) | exact sh_sheet (by omega) | exact sh_items (by omega) | exact sh_sums (by omega)) rfl ?_
            refine wp_getI (pc := 17) dX11_learnt_17 fl_11_206 (by first | rfl | assumption | exact sh_house (by omega) | exact sh_wish (by omega) | exact sh_wor (by omega) | exact sh_bar (by omega) | exact sh_term (by omega) | exact sh_sheet (by omega) | exact sh_items (by omega) | exact sh_sums (by omega)) rfl ?_
            refine wp_if_ne (pc := 20) (tgt := 26) dX11_learnt_20 rfl (fun _ => ?_) (fun q => absurd q c3')
            refine wp_iload_n (pc := 26) dX11_learnt_26 (by first | rfl | assumption | (repeat first | assumption | rfl | refine aG_n ?_ rfl rfl)) ?_
            refine wp_aload_n (pc := 27) dX11_learnt_27 (by first | rfl | assumption | (repeat first | assumption | rfl | refine aG_n ?_ rfl rfl)) ?_
            refine wp_getR (pc := 28) dX11_learnt_28 fl_11_92 (by first | rfl | assumption | exact sh_house (by omega) | exact sh_wish (by omega) | exact sh_wor (by omega) | exact sh_bar (by omega) | exact sh_term (by omega) | exact sh_sheet (by omega) | exact sh_items (by omega) | exact sh_sums (by omega)) rfl ?_
            refine wp_getI (pc := 31) dX11_learnt_31 fl_11_218 (by first | rfl | assumption | exact sh_house (by omega) | exact sh_wish (by omega) | exact sh_wor (by omega) | exact sh_bar (by omega) | exact sh_term (by omega) | exact sh_sheet (by omega) | exact sh_items (by omega) | exact sh_sums (by omega)) rfl ?_
            refine wp_icmp_eq (pc := 34) (tgt := 50) dX11_learnt_34 rfl (fun _ => ?_) (fun q => absurd kp1.symm q)
            refine wp_iload_n (pc := 50) dX11_learnt_50 (by first | rfl | assumption | (repeat first | assumption | rfl | refine aG_n ?_ rfl rfl)) ?_
            refine wp_aload_n (pc := 51) dX11_learnt_51 (by first | rfl | assumption | (repeat first | assumption | rfl | refine aG_n ?_ rfl rfl)) ?_
            refine wp_getR (pc := 52) dX11_learnt_52 fl_11_92 (by first | rfl | assumption | exact sh_house (by omega) | exact sh_wish (by omega) | exact sh_wor (by omega) | exact sh_bar (by omega) | exact sh_term (by omega) | exact sh_sheet (by omega) | exact sh_items (by omega) | exact sh_sums (by omega)) rfl ?_
            refine wp_getI (pc := 55) dX11_learnt_55 fl_11_218 (by first | rfl | assumption | exact sh_house (by omega) | exact sh_wish (by omega) | exact sh_wor (by omega) | exact sh_bar (by omega) | exact sh_term (by omega) | exact sh_sheet (by omega) | exact sh_items (by omega) | exact sh_sums (by omega)) rfl ?_
            refine wp_icmp_ne (pc := 58) (tgt := 65) dX11_learnt_58 rfl (fun q => absurd kp1.symm q) (fun _ => ?_)
            refine wp_iconst (pc := 61) (v := 0) dX11_learnt_61 (by decide) ?_
            refine wp_goto (pc := 62) (tgt := 66) dX11_learnt_62 rfl ?_
            refine wp_istore_n (pc := 66) dX11_learnt_66 (by decide) ?_
            refine wp_aload_n (pc := 67) dX11_learnt_67 (by first | rfl | assumption | (repeat first | assumption | rfl | refine aG_n ?_ rfl rfl)) ?_
            refine wp_getR (pc := 68) dX11_learnt_68 fl_11_92 (by first | rfl | assumption | exact sh_house (by omega) | exact sh_wish (by omega) | exact sh_wor (by omega) | exact sh_bar (by omega) | exact sh_term (by omega) | exact sh_sheet (by omega) | exact sh_items (by omega) | exact sh_sums (by omega)) rfl ?_
            refine wp_iload_n (pc := 71) dX11_learnt_71 (by first | rfl | assumption | (repeat first | assumption | rfl | refine aG_n ?_ rfl rfl)) ?_
            refine wp_cV (pc := 72) dX11_learnt_72 lk_11_255 rfl (by decide) rfl (by first | rfl | assumption | exact sh_house (by omega) | exact sh_wish (by omega) | exact sh_wor (by omega) | exact sh_bar (by omega) | exact sh_term (by omega) | exact sh_sheet (by omega) | exact sh_items (by omega) | exact sh_sums (by omega)) rfl rfl ?_
            refine wp_iload_n (pc := 0) dX7_saidBy_0 (by first | rfl | assumption | (repeat first | assumption | rfl | refine aG_n ?_ rfl rfl)) ?_
            refine wp_if_ne (pc := 1) (tgt := 15) dX7_saidBy_1 rfl (fun q => absurd q (by decide)) (fun _ => ?_)
            refine wp_aload_n (pc := 4) dX7_saidBy_4 (by first | rfl | assumption | (repeat first | assumption | rfl | refine aG_n ?_ rfl rfl)) ?_
            refine wp_getI (pc := 5) dX7_saidBy_5 fl_7_38 (by first | rfl | assumption | exact sh_house (by omega) | exact sh_wish (by omega) | exact sh_wor (by omega) | exact sh_bar (by omega) | exact sh_term (by omega) | exact sh_sheet (by omega) | exact sh_items (by omega) | exact sh_sums (by omega)) rfl ?_
            refine wp_iconst (pc := 8) (v := 1) dX7_saidBy_8 (by decide) ?_
            refine wp_iadd (pc := 9) dX7_saidBy_9 ?_
            refine wp_iconst (pc := 10) (v := 2) dX7_saidBy_10 (by decide) ?_
            refine wp_idiv (pc := 11) dX7_saidBy_11 (by decide) ?_
            refine wp_goto (pc := 12) (tgt := 21) dX7_saidBy_12 rfl ?_
            refine wp_iretK (pc := 21) dX7_saidBy_21 rfl (by first | rfl | decide | assumption) ?_
            refine wp_istore (pc := 75) dX11_learnt_75 (by decide) ?_
            refine wp_iload_n (pc := 77) dX11_learnt_77 (by first | rfl | assumption | (repeat first | assumption | rfl | refine aG_n ?_ rfl rfl)) ?_
            refine wp_iload (pc := 78) dX11_learnt_78 (by first | rfl | assumption | (repeat first | assumption | rfl | refine aG_n ?_ rfl rfl)) ?_
            refine wp_icmp_le (pc := 80) (tgt := 85) dX11_learnt_80 rfl (fun q => absurd q (by rw [es]; exact nI_ge (by omega) (by omega))) (fun _ => ?_)
            refine wp_iconst (pc := 83) (v := -1) dX11_learnt_83 (by decide) ?_
            refine wp_ireturn (pc := 84) dX11_learnt_84 rfl (by first | rfl | decide | assumption) ?_
            refine k _ _ (fun Q' k' => ?_)
            refine wp_iload_n (pc := 0) dX12_learnt_0 (by first | rfl | assumption | (repeat first | assumption | rfl | refine aG_n ?_ rfl rfl)) ?_
            refine wp_cS (pc := 1) dX12_learnt_1 lk_12_143 rfl rfl rfl (c_X12_isHouse (fun _ => aK_i ?_) (fun q => absurd c1 q))
            refine wp_if_eq (pc := 4) (tgt := 11) dX12_learnt_4 rfl (fun q => absurd q (by decide)) (fun _ => ?_)
            refine wp_iload_n (pc := 7) dX12_learnt_7 (by first | rfl | assumption | (repeat first | assumption | rfl | refine aG_n ?_ rfl rfl)) ?_
            refine wp_if_ge (pc := 8) (tgt := 13) dX12_learnt_8 rfl (fun _ => ?_) (fun q => absurd c2' q)
            refine wp_aload_n (pc := 13) dX12_learnt_13 (by first | rfl | assumption | (repeat first | assumption | rfl | refine aG_n ?_ rfl rfl)) ?_
            refine wp_getI (pc := 14) dX12_learnt_14 fl_12_137 (by first | rfl | assumption | exact sh_house (by omega) | exact sh_wish (by omega) | exact sh_wor (by omega) | exact sh_bar (by omega) | exact sh_term (by omega) | exact sh_sheet (by omega) | exact sh_items (by omega) | exact sh_sums (by omega)) rfl ?_
            refine wp_if_ne (pc := 17) (tgt := 23) dX12_learnt_17 rfl (fun _ => ?_) (fun q => absurd q c3)
            refine wp_iload_n (pc := 23) dX12_learnt_23 (by first | rfl | assumption | (repeat first | assumption | rfl | refine aG_n ?_ rfl rfl)) ?_
            refine wp_aload_n (pc := 24) dX12_learnt_24 (by first | rfl | assumption | (repeat first | assumption | rfl | refine aG_n ?_ rfl rfl)) ?_
            refine wp_getI (pc := 25) dX12_learnt_25 fl_12_235 (by first | rfl | assumption | exact sh_house (by omega) | exact sh_wish (by omega) | exact sh_wor (by omega) | exact sh_bar (by omega) | exact sh_term (by omega) | exact sh_sheet (by omega) | exact sh_items (by omega) | exact sh_sums (by omega)) rfl ?_
            refine wp_icmp_eq (pc := 28) (tgt := 39) dX12_learnt_28 rfl (fun _ => ?_) (fun q => absurd (by rw [kp2]) q)
            refine wp_iload_n (pc := 39) dX12_learnt_39 (by first | rfl | assumption | (repeat first | assumption | rfl | refine aG_n ?_ rfl rfl)) ?_
            refine wp_aload_n (pc := 40) dX12_learnt_40 (by first | rfl | assumption | (repeat first | assumption | rfl | refine aG_n ?_ rfl rfl)) ?_
            refine wp_iload_n (pc := 41) dX12_learnt_41 (by first | rfl | assumption | (repeat first | assumption | rfl | refine aG_n ?_ rfl rfl)) ?_
            refine wp_cV (pc := 42) dX12_learnt_42 lk_12_301 rfl (by decide) rfl (by first | rfl | assumption | exact sh_house (by omega) | exact sh_wish (by omega) | exact sh_wor (by omega) | exact sh_bar (by omega) | exact sh_term (by omega) | exact sh_sheet (by omega) | exact sh_items (by omega) | exact sh_sums (by omega)) rfl rfl ?_
            refine wp_iload_n (pc := 0) dX12_saidBy_0 (by first | rfl | assumption | (repeat first | assumption | rfl | refine aG_n ?_ rfl rfl)) ?_
            refine wp_aload_n (pc := 1) dX12_saidBy_1 (by first | rfl | assumption | (repeat first | assumption | rfl | refine aG_n ?_ rfl rfl)) ?_
            refine wp_getI (pc := 2) dX12_saidBy_2 fl_12_235 (by first | rfl | assumption | exact sh_house (by omega) | exact sh_wish (by omega) | exact sh_wor (by omega) | exact sh_bar (by omega) | exact sh_term (by omega) | exact sh_sheet (by omega) | exact sh_items (by omega) | exact sh_sums (by omega)) rfl ?_
            refine wp_icmp_ne (pc := 5) (tgt := 19) dX12_saidBy_5 rfl (fun q => absurd (by rw [kp2]) q) (fun _ => ?_)
            refine wp_aload_n (pc := 8) dX12_saidBy_8 (by first | rfl | assumption | (repeat first | assumption | rfl | refine aG_n ?_ rfl rfl)) ?_
            refine wp_getI (pc := 9) dX12_saidBy_9 fl_12_244 (by first | rfl | assumption | exact sh_house (by omega) | exact sh_wish (by omega) | exact sh_wor (by omega) | exact sh_bar (by omega) | exact sh_term (by omega) | exact sh_sheet (by omega) | exact sh_items (by omega) | exact sh_sums (by omega)) rfl ?_
            refine wp_iconst (pc := 12) (v := 1) dX12_saidBy_12 (by decide) ?_
            refine wp_iadd (pc := 13) dX12_saidBy_13 ?_
            refine wp_iconst (pc := 14) (v := 2) dX12_saidBy_14 (by decide) ?_
            refine wp_idiv (pc := 15) dX12_saidBy_15 (by decide) ?_
            refine wp_goto (pc := 16) (tgt := 25) dX12_saidBy_16 rfl ?_
            refine wp_iretK (pc := 25) dX12_saidBy_25 rfl (by first | rfl | decide | assumption) ?_
            refine wp_icmp_le (pc := 45) (tgt := 50) dX12_learnt_45 rfl (fun q => absurd q (by rw [l32, ← l31, es]; exact nI_ge (by omega) (by omega))) (fun _ => ?_)
            refine wp_iconst (pc := 48) (v := -1) dX12_learnt_48 (by decide) ?_
            refine wp_ireturn (pc := 49) dX12_learnt_49 rfl (by first | rfl | decide | assumption) ?_
            exact k' _ hI
        · by_cases eb : i = b
          · obtain rfl : b = i := eb.symm
            have es : μ.1 73 3 / 2 = nI (w / 2) := by rw [l31]; exact pk_div (d := 2) (by omega) (by decide) (by decide)
            have esm : (if 1 = 0 then (μ.1 86 19 + 1) / 2 else μ.1 86 19 / 2) = nI (w / 2) := by
              rw [if_neg (by decide), l32, ← l31]; exact es
            by_cases c5 : m ≤ w / 2
            · have hn : ∀ x, x < (if m = 0 then w / 2 else m) → 2 * x + 1 < w := fun x hx => by
                split at hx <;> omega
              have hn31 : (if m = 0 then w / 2 else m) < 2 ^ 31 := by split <;> omega
              by_cases c6 : cn (ta ||| tb) 6 ≤ 4
              · have mt : ∀ μ1 : Mm, Smm μ.1 μ1.1 → (∀ c, 86 ≤ c → μ1.1 c = μ.1 c) → (∀ c, 55 ≤ c → c ≤ 70 → μ1.1 c = μ.1 c) → μ1.2 74 = μ.2 74 → ∀ Q' : Option Value → Mm → Prop, (∀ μ2, Inv μ2 → Q' (some (.int (nI (ctF (fun c => ∀ x, x < (if m = 0 then w / 2 else m) → GW μ.1 a b ta tb 1 c (2 * x + 1)) (3 ^ cn (ta ||| tb) 6))))) μ2) → WP X mX12_learnt 0 (lv_args 0 [.ref 86, .int (nI b), .int (nI m)]) [] μ1 Q' := by
                  intro μ1 s1 h86 h55 r1 Q' k'
                  have e15 : μ1.1 86 15 = μ.1 86 15 := by rw [h86 86 (by omega)]
                  have e16 : μ1.1 86 16 = nI a := by rw [h86 86 (by omega)]; exact kp2
                  have e17 : μ1.1 86 17 = nI b := by rw [h86 86 (by omega)]; exact kp4
                  have e19 : μ1.1 86 19 = μ.1 86 19 := by rw [h86 86 (by omega)]
                  have es1 : μ1.1 86 19 / 2 = nI (w / 2) := by rw [e19, l32, ← l31]; exact es
                  have hW1 : I_wish μ1.1 := wish_c ⟨h86 _ (by omega), h86 _ (by omega), h86 _ (by omega), h86 _ (by omega)⟩ (fun y hy => ⟨h55 _ (by omega) (by omega), h55 _ (by omega) (by omega), h55 _ (by omega) (by omega)⟩) hW
                  have hyy : ∀ y, (89 ≤ y ∧ y ≤ 91) ∨ (100 ≤ y ∧ y ≤ 102) ∨ (55 ≤ y ∧ y ≤ 70) → μ1.1 y = μ.1 y := fun y hy => if q : 86 ≤ y then h86 y q else h55 y (by omega) (by omega)
                  refine wp_iload_n (pc := 0) dX12_learnt_0 (by first | rfl | assumption | (repeat first | assumption | rfl | refine aG_n ?_ rfl rfl)) ?_
                  refine wp_cS (pc := 1) dX12_learnt_1 lk_12_143 rfl rfl rfl (c_X12_isHouse (fun _ => aK_i ?_) (fun q => absurd c1 q))
                  refine wp_if_eq (pc := 4) (tgt := 11) dX12_learnt_4 rfl (fun q => absurd q (by decide)) (fun _ => ?_)
                  refine wp_iload_n (pc := 7) dX12_learnt_7 (by first | rfl | assumption | (repeat first | assumption | rfl | refine aG_n ?_ rfl rfl)) ?_
                  refine wp_if_ge (pc := 8) (tgt := 13) dX12_learnt_8 rfl (fun _ => ?_) (fun q => absurd c2' q)
                  refine wp_aload_n (pc := 13) dX12_learnt_13 (by first | rfl | assumption | (repeat first | assumption | rfl | refine aG_n ?_ rfl rfl)) ?_
                  refine wp_getI (pc := 14) dX12_learnt_14 fl_12_137 (by first | rfl | assumption | exact sh_house (by omega) | exact sh_wish (by omega) | exact sh_wor (by omega) | exact sh_bar (by omega) | exact sh_term (by omega) | exact sh_sheet (by omega) | exact sh_items (by omega) | exact sh_sums (by omega)) rfl ?_
                  refine wp_if_ne (pc := 17) (tgt := 23) dX12_learnt_17 rfl (fun _ => ?_) (fun q => absurd q (by rw [e15]; exact c3))
                  refine wp_iload_n (pc := 23) dX12_learnt_23 (by first | rfl | assumption | (repeat first | assumption | rfl | refine aG_n ?_ rfl rfl)) ?_
                  refine wp_aload_n (pc := 24) dX12_learnt_24 (by first | rfl | assumption | (repeat first | assumption | rfl | refine aG_n ?_ rfl rfl)) ?_
                  refine wp_getI (pc := 25) dX12_learnt_25 fl_12_235 (by first | rfl | assumption | exact sh_house (by omega) | exact sh_wish (by omega) | exact sh_wor (by omega) | exact sh_bar (by omega) | exact sh_term (by omega) | exact sh_sheet (by omega) | exact sh_items (by omega) | exact sh_sums (by omega)) rfl ?_
                  refine wp_icmp_eq (pc := 28) (tgt := 39) dX12_learnt_28 rfl (fun q => absurd q (by rw [e16, neq _ _ hb ha]; exact fun z => hab z.symm)) (fun _ => ?_)
                  refine wp_iload_n (pc := 31) dX12_learnt_31 (by first | rfl | assumption | (repeat first | assumption | rfl | refine aG_n ?_ rfl rfl)) ?_
                  refine wp_aload_n (pc := 32) dX12_learnt_32 (by first | rfl | assumption | (repeat first | assumption | rfl | refine aG_n ?_ rfl rfl)) ?_
                  refine wp_getI (pc := 33) dX12_learnt_33 fl_12_238 (by first | rfl | assumption | exact sh_house (by omega) | exact sh_wish (by omega) | exact sh_wor (by omega) | exact sh_bar (by omega) | exact sh_term (by omega) | exact sh_sheet (by omega) | exact sh_items (by omega) | exact sh_sums (by omega)) rfl ?_
                  refine wp_icmp_ne (pc := 36) (tgt := 48) dX12_learnt_36 rfl (fun q => absurd (by rw [e17]) q) (fun _ => ?_)
                  refine wp_iload_n (pc := 39) dX12_learnt_39 (by first | rfl | assumption | (repeat first | assumption | rfl | refine aG_n ?_ rfl rfl)) ?_
                  refine wp_aload_n (pc := 40) dX12_learnt_40 (by first | rfl | assumption | (repeat first | assumption | rfl | refine aG_n ?_ rfl rfl)) ?_
                  refine wp_iload_n (pc := 41) dX12_learnt_41 (by first | rfl | assumption | (repeat first | assumption | rfl | refine aG_n ?_ rfl rfl)) ?_
                  refine wp_cV (pc := 42) dX12_learnt_42 lk_12_301 rfl (by decide) rfl (by first | rfl | assumption | exact sh_house (by omega) | exact sh_wish (by omega) | exact sh_wor (by omega) | exact sh_bar (by omega) | exact sh_term (by omega) | exact sh_sheet (by omega) | exact sh_items (by omega) | exact sh_sums (by omega)) rfl rfl ?_
                  refine wp_iload_n (pc := 0) dX12_saidBy_0 (by first | rfl | assumption | (repeat first | assumption | rfl | refine aG_n ?_ rfl rfl)) ?_
                  refine wp_aload_n (pc := 1) dX12_saidBy_1 (by first | rfl | assumption | (repeat first | assumption | rfl | refine aG_n ?_ rfl rfl)) ?_
                  refine wp_getI (pc := 2) dX12_saidBy_2 fl_12_235 (by first | rfl | assumption | exact sh_house (by omega) | exact sh_wish (by omega) | exact sh_wor (by omega) | exact sh_bar (by omega) | exact sh_term (by omega) | exact sh_sheet (by omega) | exact sh_items (by omega) | exact sh_sums (by omega)) rfl ?_
                  refine wp_icmp_ne (pc := 5) (tgt := 19) dX12_saidBy_5 rfl (fun _ => ?_) (fun q => absurd q (by rw [e16, neq _ _ hb ha]; exact fun z => hab z.symm))
                  refine wp_aload_n (pc := 19) dX12_saidBy_19 (by first | rfl | assumption | (repeat first | assumption | rfl | refine aG_n ?_ rfl rfl)) ?_
                  refine wp_getI (pc := 20) dX12_saidBy_20 fl_12_244 (by first | rfl | assumption | exact sh_house (by omega) | exact sh_wish (by omega) | exact sh_wor (by omega) | exact sh_bar (by omega) | exact sh_term (by omega) | exact sh_sheet (by omega) | exact sh_items (by omega) | exact sh_sums (by omega)) rfl ?_
                  refine wp_iconst (pc := 23) (v := 2) dX12_saidBy_23 (by decide) ?_
                  refine wp_idiv (pc := 24) dX12_saidBy_24 (by decide) ?_
                  refine wp_iretK (pc := 25) dX12_saidBy_25 rfl (by first | rfl | decide | assumption) ?_
                  refine wp_icmp_le (pc := 45) (tgt := 50) dX12_learnt_45 rfl (fun _ => ?_) (fun q => absurd (by rw [es1]; exact nI_le c5 (by omega)) q)
                  skip
                  refine m_count (m := m) (sd := w / 2) (d := 1) hW1 (LK_s s1 r1 hL) (by decide) (fun x hx => by omega) c5 (by omega) (by rw [e19]; exact esm) rfl (fun z => absurd c6 (by omega)) (fun _ μ2 o2 => ?_) _ (by first | rfl | assumption | (repeat first | assumption | rfl | refine aG_n ?_ rfl rfl)) (by first | rfl | assumption | (repeat first | assumption | rfl | refine aG_n ?_ rfl rfl)) (by first | rfl | assumption | (repeat first | assumption | rfl | refine aG_n ?_ rfl rfl))
                  rw [ctF_c (P := fun c => ∀ x, x < (if m = 0 then w / 2 else m) → GW μ.1 a b ta tb 1 c (2 * x + 1)) _ (fun c _ => ⟨fun z x hx => (GW_c ha hb hyy (by rw [h86 86 (by omega)]) (by rw [h86 86 (by omega)])).mp (z x hx), fun z x hx => (GW_c ha hb hyy (by rw [h86 86 (by omega)]) (by rw [h86 86 (by omega)])).mpr (z x hx)⟩)]
                  exact k' _ (Inv_A hI s1 r1 o2)
                by_cases m0 : m = 0
                · rw [if_pos m0] at mt hn hn31
                  refine wp_iload_n (pc := 0) dX11_learnt_0 (by first | rfl | assumption | (repeat first | assumption | rfl | refine aG_n ?_ rfl rfl)) ?_
                  refine wp_cS (pc := 1) dX11_learnt_1 lk_11_101 rfl rfl rfl (c_X11_isHouse (fun _ => aK_i ?_) (fun q => absurd c1 q))
                  refine wp_if_eq (pc := 4) (tgt := 11) dX11_learnt_4 rfl (fun q => absurd q (by decide)) (fun _ => ?_)
                  refine wp_iload_n (pc := 7) dX11_learnt_7 (by first | rfl | assumption | (repeat first | assumption | rfl | refine aG_n ?_ rfl rfl)) ?_
                  refine wp_if_ge (pc := 8) (tgt := 13) dX11_learnt_8 rfl (fun _ => ?_) (fun q => absurd c2' q)
                  refine wp_aload_n (pc := 13) dX11_learnt_13 (by first | rfl | assumption | (repeat first | assumption | rfl | refine aG_n ?_ rfl rfl)) ?_
                  refine wp_getR (pc := 14) dX11_learnt_14 fl_11_92 (by first | rfl | assumption | exact sh_house (by omega) | exact sh_wish (by omega) | exact sh_wor (by omega) | exact sh_bar (by omega) | exact sh_term (by omega) | exact sh_sheet (by omega) | exact sh_items (by omega) | exact sh_sums (by omega)) rfl ?_
                  refine wp_getI (pc := 17) dX11_learnt_17 fl_11_206 (by first | rfl | assumption | exact sh_house (by omega) | exact sh_wish (by omega) | exact sh_wor (by omega) | exact sh_bar (by omega) | exact sh_term (by omega) | exact sh_sheet (by omega) | exact sh_items (by omega) | exact sh_sums (by omega)) rfl ?_
                  refine wp_if_ne (pc := 20) (tgt := 26) dX11_learnt_20 rfl (fun _ => ?_) (fun q => absurd q c3')
                  refine wp_iload_n (pc := 26) dX11_learnt_26 (by first | rfl | assumption | (repeat first | assumption | rfl | refine aG_n ?_ rfl rfl)) ?_
                  refine wp_aload_n (pc := 27) dX11_learnt_27 (by first | rfl | assumption | (repeat first | assumption | rfl | refine aG_n ?_ rfl rfl)) ?_
                  refine wp_getR (pc := 28) dX11_learnt_28 fl_11_92 (by first | rfl | assumption | exact sh_house (by omega) | exact sh_wish (by omega) | exact sh_wor (by omega) | exact sh_bar (by omega) | exact sh_term (by omega) | exact sh_sheet (by omega) | exact sh_items (by omega) | exact sh_sums (by omega)) rfl ?_
                  refine wp_getI (pc := 31) dX11_learnt_31 fl_11_218 (by first | rfl | assumption | exact sh_house (by omega) | exact sh_wish (by omega) | exact sh_wor (by omega) | exact sh_bar (by omega) | exact sh_term (by omega) | exact sh_sheet (by omega) | exact sh_items (by omega) | exact sh_sums (by omega)) rfl ?_
                  refine wp_icmp_eq (pc := 34) (tgt := 50) dX11_learnt_34 rfl (fun q => absurd q (by rw [kp1, neq _ _ hb ha]; exact fun z => hab z.symm)) (fun _ => ?_)
                  refine wp_iload_n (pc := 37) dX11_learnt_37 (by first | rfl | assumption | (repeat first | assumption | rfl | refine aG_n ?_ rfl rfl)) ?_
                  refine wp_aload_n (pc := 38) dX11_learnt_38 (by first | rfl | assumption | (repeat first | assumption | rfl | refine aG_n ?_ rfl rfl)) ?_
                  refine wp_getR (pc := 39) dX11_learnt_39 fl_11_92 (by first | rfl | assumption | exact sh_house (by omega) | exact sh_wish (by omega) | exact sh_wor (by omega) | exact sh_bar (by omega) | exact sh_term (by omega) | exact sh_sheet (by omega) | exact sh_items (by omega) | exact sh_sums (by omega)) rfl ?_
                  refine wp_getI (pc := 42) dX11_learnt_42 fl_11_221 (by first | rfl | assumption | exact sh_house (by omega) | exact sh_wish (by omega) | exact sh_wor (by omega) | exact sh_bar (by omega) | exact sh_term (by omega) | exact sh_sheet (by omega) | exact sh_items (by omega) | exact sh_sums (by omega)) rfl ?_
                  refine wp_icmp_eq (pc := 45) (tgt := 50) dX11_learnt_45 rfl (fun _ => ?_) (fun q => absurd kp3.symm q)
                  refine wp_iload_n (pc := 50) dX11_learnt_50 (by first | rfl | assumption | (repeat first | assumption | rfl | refine aG_n ?_ rfl rfl)) ?_
                  refine wp_aload_n (pc := 51) dX11_learnt_51 (by first | rfl | assumption | (repeat first | assumption | rfl | refine aG_n ?_ rfl rfl)) ?_
                  refine wp_getR (pc := 52) dX11_learnt_52 fl_11_92 (by first | rfl | assumption | exact sh_house (by omega) | exact sh_wish (by omega) | exact sh_wor (by omega) | exact sh_bar (by omega) | exact sh_term (by omega) | exact sh_sheet (by omega) | exact sh_items (by omega) | exact sh_sums (by omega)) rfl ?_
                  refine wp_getI (pc := 55) dX11_learnt_55 fl_11_218 (by first | rfl | assumption | exact sh_house (by omega) | exact sh_wish (by omega) | exact sh_wor (by omega) | exact sh_bar (by omega) | exact sh_term (by omega) | exact sh_sheet (by omega) | exact sh_items (by omega) | exact sh_sums (by omega)) rfl ?_
                  refine wp_icmp_ne (pc := 58) (tgt := 65) dX11_learnt_58 rfl (fun _ => ?_) (fun q => absurd q (by rw [kp1, neq _ _ hb ha]; exact fun z => hab z.symm))
                  refine wp_iconst (pc := 65) (v := 1) dX11_learnt_65 (by decide) ?_
                  refine wp_istore_n (pc := 66) dX11_learnt_66 (by decide) ?_
                  refine wp_aload_n (pc := 67) dX11_learnt_67 (by first | rfl | assumption | (repeat first | assumption | rfl | refine aG_n ?_ rfl rfl)) ?_
                  refine wp_getR (pc := 68) dX11_learnt_68 fl_11_92 (by first | rfl | assumption | exact sh_house (by omega) | exact sh_wish (by omega) | exact sh_wor (by omega) | exact sh_bar (by omega) | exact sh_term (by omega) | exact sh_sheet (by omega) | exact sh_items (by omega) | exact sh_sums (by omega)) rfl ?_
                  refine wp_iload_n (pc := 71) dX11_learnt_71 (by first | rfl | assumption | (repeat first | assumption | rfl | refine aG_n ?_ rfl rfl)) ?_
                  refine wp_cV (pc := 72) dX11_learnt_72 lk_11_255 rfl (by decide) rfl (by first | rfl | assumption | exact sh_house (by omega) | exact sh_wish (by omega) | exact sh_wor (by omega) | exact sh_bar (by omega) | exact sh_term (by omega) | exact sh_sheet (by omega) | exact sh_items (by omega) | exact sh_sums (by omega)) rfl rfl ?_
                  refine wp_iload_n (pc := 0) dX7_saidBy_0 (by first | rfl | assumption | (repeat first | assumption | rfl | refine aG_n ?_ rfl rfl)) ?_
                  refine wp_if_ne (pc := 1) (tgt := 15) dX7_saidBy_1 rfl (fun _ => ?_) (fun q => absurd q (by decide))
                  refine wp_aload_n (pc := 15) dX7_saidBy_15 (by first | rfl | assumption | (repeat first | assumption | rfl | refine aG_n ?_ rfl rfl)) ?_
                  refine wp_getI (pc := 16) dX7_saidBy_16 fl_7_38 (by first | rfl | assumption | exact sh_house (by omega) | exact sh_wish (by omega) | exact sh_wor (by omega) | exact sh_bar (by omega) | exact sh_term (by omega) | exact sh_sheet (by omega) | exact sh_items (by omega) | exact sh_sums (by omega)) rfl ?_
                  refine wp_iconst (pc := 19) (v := 2) dX7_saidBy_19 (by decide) ?_
                  refine wp_idiv (pc := 20) dX7_saidBy_20 (by decide) ?_
                  refine wp_iretK (pc := 21) dX7_saidBy_21 rfl (by first | rfl | decide | assumption) ?_
                  refine wp_istore (pc := 75) dX11_learnt_75 (by decide) ?_
                  refine wp_iload_n (pc := 77) dX11_learnt_77 (by first | rfl | assumption | (repeat first | assumption | rfl | refine aG_n ?_ rfl rfl)) ?_
                  refine wp_iload (pc := 78) dX11_learnt_78 (by first | rfl | assumption | (repeat first | assumption | rfl | refine aG_n ?_ rfl rfl)) ?_
                  refine wp_icmp_le (pc := 80) (tgt := 85) dX11_learnt_80 rfl (fun _ => ?_) (fun q => absurd (by rw [es]; exact nI_le c5 (by omega)) q)
                  refine wp_aload_n (pc := 85) dX11_learnt_85 (by first | rfl | assumption | (repeat first | assumption | rfl | refine aG_n ?_ rfl rfl)) ?_
                  refine wp_getR (pc := 86) dX11_learnt_86 fl_11_92 (by first | rfl | assumption | exact sh_house (by omega) | exact sh_wish (by omega) | exact sh_wor (by omega) | exact sh_bar (by omega) | exact sh_term (by omega) | exact sh_sheet (by omega) | exact sh_items (by omega) | exact sh_sums (by omega)) rfl ?_
                  refine wp_getR (pc := 89) dX11_learnt_89 fl_11_199 (by first | rfl | assumption | exact sh_house (by omega) | exact sh_wish (by omega) | exact sh_wor (by omega) | exact sh_bar (by omega) | exact sh_term (by omega) | exact sh_sheet (by omega) | exact sh_items (by omega) | exact sh_sums (by omega)) rfl ?_
                  refine wp_cV (pc := 92) dX11_learnt_92 lk_11_258 rfl (by decide) rfl (by first | rfl | assumption | exact sh_house (by omega) | exact sh_wish (by omega) | exact sh_wor (by omega) | exact sh_bar (by omega) | exact sh_term (by omega) | exact sh_sheet (by omega) | exact sh_items (by omega) | exact sh_sums (by omega)) rfl rfl ?_
                  refine wp_aload_n (pc := 0) dX4_pool_0 (by first | rfl | assumption | (repeat first | assumption | rfl | refine aG_n ?_ rfl rfl)) ?_
                  refine wp_getI (pc := 1) dX4_pool_1 fl_4_21 (by first | rfl | assumption | exact sh_house (by omega) | exact sh_wish (by omega) | exact sh_wor (by omega) | exact sh_bar (by omega) | exact sh_term (by omega) | exact sh_sheet (by omega) | exact sh_items (by omega) | exact sh_sums (by omega)) rfl ?_
                  refine wp_aload_n (pc := 4) dX4_pool_4 (by first | rfl | assumption | (repeat first | assumption | rfl | refine aG_n ?_ rfl rfl)) ?_
                  refine wp_getI (pc := 5) dX4_pool_5 fl_4_24 (by first | rfl | assumption | exact sh_house (by omega) | exact sh_wish (by omega) | exact sh_wor (by omega) | exact sh_bar (by omega) | exact sh_term (by omega) | exact sh_sheet (by omega) | exact sh_items (by omega) | exact sh_sums (by omega)) rfl ?_
                  refine wp_ior (pc := 8) dX4_pool_8 ?_
                  refine wp_iretK (pc := 9) dX4_pool_9 rfl (by first | rfl | decide | assumption) ?_
                  refine wp_cS (pc := 95) dX11_learnt_95 lk_11_261 rfl rfl rfl ?_
                  rw [ep]
                  refine c_bitc hp ?_
                  rw [epc]
                  refine aK_i ?_
                  refine wp_iconst (pc := 98) (v := 4) dX11_learnt_98 (by decide) ?_
                  refine wp_icmp_le (pc := 99) (tgt := 105) dX11_learnt_99 rfl (fun _ => ?_) (fun q => absurd (nI_le (b := 4) c6 (by omega)) q)
                  refine wp_aload_n (pc := 105) dX11_learnt_105 (by first | rfl | assumption | (repeat first | assumption | rfl | refine aG_n ?_ rfl rfl)) ?_
                  refine wp_iload_n (pc := 106) dX11_learnt_106 (by first | rfl | assumption | (repeat first | assumption | rfl | refine aG_n ?_ rfl rfl)) ?_
                  refine wp_iload_n (pc := 107) dX11_learnt_107 (by first | rfl | assumption | (repeat first | assumption | rfl | refine aG_n ?_ rfl rfl)) ?_
                  refine wp_iload_n (pc := 108) dX11_learnt_108 (by first | rfl | assumption | (repeat first | assumption | rfl | refine aG_n ?_ rfl rfl)) ?_
                  refine wp_if_ne (pc := 109) (tgt := 117) dX11_learnt_109 rfl (fun q => absurd (by rw [m0]; rfl) q) (fun _ => ?_)
                  refine wp_iload (pc := 112) dX11_learnt_112 (by first | rfl | assumption | (repeat first | assumption | rfl | refine aG_n ?_ rfl rfl)) ?_
                  refine wp_goto (pc := 114) (tgt := 118) dX11_learnt_114 rfl ?_
                  refine wp_cV (pc := 118) dX11_learnt_118 lk_11_266 rfl (by decide) rfl (by first | rfl | assumption | exact sh_house (by omega) | exact sh_wish (by omega) | exact sh_wor (by omega) | exact sh_bar (by omega) | exact sh_term (by omega) | exact sh_sheet (by omega) | exact sh_items (by omega) | exact sh_sums (by omega)) rfl rfl ?_
                  rw [es]
                  refine c_X11_countGuesses (d := 1) hL (by decide) hn hn31 hW hV (fun μ1 s1 h86 h55 r1 => aK_i ?_)
                  refine wp_ireturn (pc := 121) dX11_learnt_121 rfl (by first | rfl | decide | assumption) ?_
                  exact k _ _ (mt μ1 s1 h86 h55 r1)
                · rw [if_neg m0] at mt hn hn31
                  refine wp_iload_n (pc := 0) dX11_learnt_0 (by first | rfl | assumption | (repeat first | assumption | rfl | refine aG_n ?_ rfl rfl)) ?_
                  refine wp_cS (pc := 1) dX11_learnt_1 lk_11_101 rfl rfl rfl (c_X11_isHouse (fun _ => aK_i ?_) (fun q => absurd c1 q))
                  refine wp_if_eq (pc := 4) (tgt := 11) dX11_learnt_4 rfl (fun q => absurd q (by decide)) (fun _ => ?_)
                  refine wp_iload_n (pc := 7) dX11_learnt_7 (by first | rfl | assumption | (repeat first | assumption | rfl | refine aG_n ?_ rfl rfl)) ?_
                  refine wp_if_ge (pc := 8) (tgt := 13) dX11_learnt_8 rfl (fun _ => ?_) (fun q => absurd c2' q)
                  refine wp_aload_n (pc := 13) dX11_learnt_13 (by first | rfl | assumption | (repeat first | assumption | rfl | refine aG_n ?_ rfl rfl)) ?_
                  refine wp_getR (pc := 14) dX11_learnt_14 fl_11_92 (by first | rfl | assumption | exact sh_house (by omega) | exact sh_wish (by omega) | exact sh_wor (by omega) | exact sh_bar (by omega) | exact sh_term (by omega) | exact sh_sheet (by omega) | exact sh_items (by omega) | exact sh_sums (by omega)) rfl ?_
                  refine wp_getI (pc := 17) dX11_learnt_17 fl_11_206 (by first | rfl | assumption | exact sh_house (by omega) | exact sh_wish (by omega) | exact sh_wor (by omega) | exact sh_bar (by omega) | exact sh_term (by omega) | exact sh_sheet (by omega) | exact sh_items (by omega) | exact sh_sums (by omega)) rfl ?_
                  refine wp_if_ne (pc := 20) (tgt := 26) dX11_learnt_20 rfl (fun _ => ?_) (fun q => absurd q c3')
                  refine wp_iload_n (pc := 26) dX11_learnt_26 (by first | rfl | assumption | (repeat first | assumption | rfl | refine aG_n ?_ rfl rfl)) ?_
                  refine wp_aload_n (pc := 27) dX11_learnt_27 (by first | rfl | assumption | (repeat first | assumption | rfl | refine aG_n ?_ rfl rfl)) ?_
                  refine wp_getR (pc := 28) dX11_learnt_28 fl_11_92 (by first | rfl | assumption | exact sh_house (by omega) | exact sh_wish (by omega) | exact sh_wor (by omega) | exact sh_bar (by omega) | exact sh_term (by omega) | exact sh_sheet (by omega) | exact sh_items (by omega) | exact sh_sums (by omega)) rfl ?_
                  refine wp_getI (pc := 31) dX11_learnt_31 fl_11_218 (by first | rfl | assumption | exact sh_house (by omega) | exact sh_wish (by omega) | exact sh_wor (by omega) | exact sh_bar (by omega) | exact sh_term (by omega) | exact sh_sheet (by omega) | exact sh_items (by omega) | exact sh_sums (by omega)) rfl ?_
                  refine wp_icmp_eq (pc := 34) (tgt := 50) dX11_learnt_34 rfl (fun q => absurd q (by rw [kp1, neq _ _ hb ha]; exact fun z => hab z.symm)) (fun _ => ?_)
                  refine wp_iload_n (pc := 37) dX11_learnt_37 (by first | rfl | assumption | (repeat first | assumption | rfl | refine aG_n ?_ rfl rfl)) ?_
                  refine wp_aload_n (pc := 38) dX11_learnt_38 (by first | rfl | assumption | (repeat first | assumption | rfl | refine aG_n ?_ rfl rfl)) ?_
                  refine wp_getR (pc := 39) dX11_learnt_39 fl_11_92 (by first | rfl | assumption | exact sh_house (by omega) | exact sh_wish (by omega) | exact sh_wor (by omega) | exact sh_bar (by omega) | exact sh_term (by omega) | exact sh_sheet (by omega) | exact sh_items (by omega) | exact sh_sums (by omega)) rfl ?_
                  refine wp_getI (pc := 42) dX11_learnt_42 fl_11_221 (by first | rfl | assumption | exact sh_house (by omega) | exact sh_wish (by omega) | exact sh_wor (by omega) | exact sh_bar (by omega) | exact sh_term (by omega) | exact sh_sheet (by omega) | exact sh_items (by omega) | exact sh_sums (by omega)) rfl ?_
                  refine wp_icmp_eq (pc := 45) (tgt := 50) dX11_learnt_45 rfl (fun _ => ?_) (fun q => absurd kp3.symm q)
                  refine wp_iload_n (pc := 50) dX11_learnt_50 (by first | rfl | assumption | (repeat first | assumption | rfl | refine aG_n ?_ rfl rfl)) ?_
                  refine wp_aload_n (pc := 51) dX11_learnt_51 (by first | rfl | assumption | (repeat first | assumption | rfl | refine aG_n ?_ rfl rfl)) ?_
                  refine wp_getR (pc := 52) dX11_learnt_52 fl_11_92 (by first | rfl | assumption | exact sh_house (by omega) | exact sh_wish (by omega) | exact sh_wor (by omega) | exact sh_bar (by omega) | exact sh_term (by omega) | exact sh_sheet (by omega) | exact sh_items (by omega) | exact sh_sums (by omega)) rfl ?_
                  refine wp_getI (pc := 55) dX11_learnt_55 fl_11_218 (by first | rfl | assumption | exact sh_house (by omega) | exact sh_wish (by omega) | exact sh_wor (by omega) | exact sh_bar (by omega) | exact sh_term (by omega) | exact sh_sheet (by omega) | exact sh_items (by omega) | exact sh_sums (by omega)) rfl ?_
                  refine wp_icmp_ne (pc := 58) (tgt := 65) dX11_learnt_58 rfl (fun _ => ?_) (fun q => absurd q (by rw [kp1, neq _ _ hb ha]; exact fun z => hab z.symm))
                  refine wp_iconst (pc := 65) (v := 1) dX11_learnt_65 (by decide) ?_
                  refine wp_istore_n (pc := 66) dX11_learnt_66 (by decide) ?_
                  refine wp_aload_n (pc := 67) dX11_learnt_67 (by first | rfl | assumption | (repeat first | assumption | rfl | refine aG_n ?_ rfl rfl)) ?_
                  refine wp_getR (pc := 68) dX11_learnt_68 fl_11_92 (by first | rfl | assumption | exact sh_house (by omega) | exact sh_wish (by omega) | exact sh_wor (by omega) | exact sh_bar (by omega) | exact sh_term (by omega) | exact sh_sheet (by omega) | exact sh_items (by omega) | exact sh_sums (by omega)) rfl ?_
                  refine wp_iload_n (pc := 71) dX11_learnt_71 (by first | rfl | assumption | (repeat first | assumption | rfl | refine aG_n ?_ rfl rfl)) ?_
                  refine wp_cV (pc := 72) dX11_learnt_72 lk_11_255 rfl (by decide) rfl (by first | rfl | assumption | exact sh_house (by omega) | exact sh_wish (by omega) | exact sh_wor (by omega) | exact sh_bar (by omega) | exact sh_term (by omega) | exact sh_sheet (by omega) | exact sh_items (by omega) | exact sh_sums (by omega)) rfl rfl ?_
                  refine wp_iload_n (pc := 0) dX7_saidBy_0 (by first | rfl | assumption | (repeat first | assumption | rfl | refine aG_n ?_ rfl rfl)) ?_
                  refine wp_if_ne (pc := 1) (tgt := 15) dX7_saidBy_1 rfl (fun _ => ?_) (fun q => absurd q (by decide))
                  refine wp_aload_n (pc := 15) dX7_saidBy_15 (by first | rfl | assumption | (repeat first | assumption | rfl | refine aG_n ?_ rfl rfl)) ?_
                  refine wp_getI (pc := 16) dX7_saidBy_16 fl_7_38 (by first | rfl | assumption | exact sh_house (by omega) | exact sh_wish (by omega) | exact sh_wor (by omega) | exact sh_bar (by omega) | exact sh_term (by omega) | exact sh_sheet (by omega) | exact sh_items (by omega) | exact sh_sums (by omega)) rfl ?_
                  refine wp_iconst (pc := 19) (v := 2) dX7_saidBy_19 (by decide) ?_
                  refine wp_idiv (pc := 20) dX7_saidBy_20 (by decide) ?_
                  refine wp_iretK (pc := 21) dX7_saidBy_21 rfl (by first | rfl | decide | assumption) ?_
                  refine wp_istore (pc := 75) dX11_learnt_75 (by decide) ?_
                  refine wp_iload_n (pc := 77) dX11_learnt_77 (by first | rfl | assumption | (repeat first | assumption | rfl | refine aG_n ?_ rfl rfl)) ?_
                  refine wp_iload (pc := 78) dX11_learnt_78 (by first | rfl | assumption | (repeat first | assumption | rfl | refine aG_n ?_ rfl rfl)) ?_
                  refine wp_icmp_le (pc := 80) (tgt := 85) dX11_learnt_80 rfl (fun _ => ?_) (fun q => absurd (by rw [es]; exact nI_le c5 (by omega)) q)
                  refine wp_aload_n (pc := 85) dX11_learnt_85 (by first | rfl | assumption | (repeat first | assumption | rfl | refine aG_n ?_ rfl rfl)) ?_
                  refine wp_getR (pc := 86) dX11_learnt_86 fl_11_92 (by first | rfl | assumption | exact sh_house (by omega) | exact sh_wish (by omega) | exact sh_wor (by omega) | exact sh_bar (by omega) | exact sh_term (by omega) | exact sh_sheet (by omega) | exact sh_items (by omega) | exact sh_sums (by omega)) rfl ?_
                  refine wp_getR (pc := 89) dX11_learnt_89 fl_11_199 (by first | rfl | assumption | exact sh_house (by omega) | exact sh_wish (by omega) | exact sh_wor (by omega) | exact sh_bar (by omega) | exact sh_term (by omega) | exact sh_sheet (by omega) | exact sh_items (by omega) | exact sh_sums (by omega)) rfl ?_
                  refine wp_cV (pc := 92) dX11_learnt_92 lk_11_258 rfl (by decide) rfl (by first | rfl | assumption | exact sh_house (by omega) | exact sh_wish (by omega) | exact sh_wor (by omega) | exact sh_bar (by omega) | exact sh_term (by omega) | exact sh_sheet (by omega) | exact sh_items (by omega) | exact sh_sums (by omega)) rfl rfl ?_
                  refine wp_aload_n (pc := 0) dX4_pool_0 (by first | rfl | assumption | (repeat first | assumption | rfl | refine aG_n ?_ rfl rfl)) ?_
                  refine wp_getI (pc := 1) dX4_pool_1 fl_4_21 (by first | rfl | assumption | exact sh_house (by omega) | exact sh_wish (by omega) | exact sh_wor (by omega) | exact sh_bar (by omega) | exact sh_term (by omega) | exact sh_sheet (by omega) | exact sh_items (by omega) | exact sh_sums (by omega)) rfl ?_
                  refine wp_aload_n (pc := 4) dX4_pool_4 (by first | rfl | assumption | (repeat first | assumption | rfl | refine aG_n ?_ rfl rfl)) ?_
                  refine wp_getI (pc := 5) dX4_pool_5 fl_4_24 (by first | rfl | assumption | exact sh_house (by omega) | exact sh_wish (by omega) | exact sh_wor (by omega) | exact sh_bar (by omega) | exact sh_term (by omega) | exact sh_sheet (by omega) | exact sh_items (by omega) | exact sh_sums (by omega)) rfl ?_
                  refine wp_ior (pc := 8) dX4_pool_8 ?_
                  refine wp_iretK (pc := 9) dX4_pool_9 rfl (by first | rfl | decide | assumption) ?_
                  refine wp_cS (pc := 95) dX11_learnt_95 lk_11_261 rfl rfl rfl ?_
                  rw [ep]
                  refine c_bitc hp ?_
                  rw [epc]
                  refine aK_i ?_
                  refine wp_iconst (pc := 98) (v := 4) dX11_learnt_98 (by decide) ?_
                  refine wp_icmp_le (pc := 99) (tgt := 105) dX11_learnt_99 rfl (fun _ => ?_) (fun q => absurd (nI_le (b := 4) c6 (by omega)) q)
                  refine wp_aload_n (pc := 105) dX11_learnt_105 (by first | rfl | assumption | (repeat first | assumption | rfl | refine aG_n ?_ rfl rfl)) ?_
                  refine wp_iload_n (pc := 106) dX11_learnt_106 (by first | rfl | assumption | (repeat first | assumption | rfl | refine aG_n ?_ rfl rfl)) ?_
                  refine wp_iload_n (pc := 107) dX11_learnt_107 (by first | rfl | assumption | (repeat first | assumption | rfl | refine aG_n ?_ rfl rfl)) ?_
                  refine wp_iload_n (pc := 108) dX11_learnt_108 (by first | rfl | assumption | (repeat first | assumption | rfl | refine aG_n ?_ rfl rfl)) ?_
                  refine wp_if_ne (pc := 109) (tgt := 117) dX11_learnt_109 rfl (fun _ => ?_) (fun q => absurd q (nI_ne0 (by omega) (by omega)))
                  refine wp_iload_n (pc := 117) dX11_learnt_117 (by first | rfl | assumption | (repeat first | assumption | rfl | refine aG_n ?_ rfl rfl)) ?_
                  refine wp_cV (pc := 118) dX11_learnt_118 lk_11_266 rfl (by decide) rfl (by first | rfl | assumption | exact sh_house (by omega) | exact sh_wish (by omega) | exact sh_wor (by omega) | exact sh_bar (by omega) | exact sh_term (by omega) | exact sh_sheet (by omega) | exact sh_items (by omega) | exact sh_sums (by omega)) rfl rfl ?_
                  refine c_X11_countGuesses (d := 1) hL (by decide) hn hn31 hW hV (fun μ1 s1 h86 h55 r1 => aK_i ?_)
                  refine wp_ireturn (pc := 121) dX11_learnt_121 rfl (by first | rfl | decide | assumption) ?_
                  exact k _ _ (mt μ1 s1 h86 h55 r1)
              · refine wp_iload_n (pc := 0) dX11_learnt_0 (by first | rfl | assumption | (repeat first | assumption | rfl | refine aG_n ?_ rfl rfl)) ?_
                refine wp_cS (pc := 1) dX11_learnt_1 lk_11_101 rfl rfl rfl (c_X11_isHouse (fun _ => aK_i ?_) (fun q => absurd c1 q))
                refine wp_if_eq (pc := 4) (tgt := 11) dX11_learnt_4 rfl (fun q => absurd q (by decide)) (fun _ => ?_)
                refine wp_iload_n (pc := 7) dX11_learnt_7 (by first | rfl | assumption | (repeat first | assumption | rfl | refine aG_n ?_ rfl rfl)) ?_
                refine wp_if_ge (pc := 8) (tgt := 13) dX11_learnt_8 rfl (fun _ => ?_) (fun q => absurd c2' q)
                refine wp_aload_n (pc := 13) dX11_learnt_13 (by first | rfl | assumption | (repeat first | assumption | rfl | refine aG_n ?_ rfl rfl)) ?_
                refine wp_getR (pc := 14) dX11_learnt_14 fl_11_92 (by first | rfl | assumption | exact sh_house (by omega) | exact sh_wish (by omega) | exact sh_wor (by omega) | exact sh_bar (by omega) | exact sh_term (by omega) | exact sh_sheet (by omega) | exact sh_items (by omega) | exact sh_sums (by omega)) rfl ?_
                refine wp_getI (pc := 17) dX11_learnt_17 fl_11_206 (by first | rfl | assumption | exact sh_house (by omega) | exact sh_wish (by omega) | exact sh_wor (by omega) | exact sh_bar (by omega) | exact sh_term (by omega) | exact sh_sheet (by omega) | exact sh_items (by omega) | exact sh_sums (by omega)) rfl ?_
                refine wp_if_ne (pc := 20) (tgt := 26) dX11_learnt_20 rfl (fun _ => ?_) (fun q => absurd q c3')
                refine wp_iload_n (pc := 26) dX11_learnt_26 (by first | rfl | assumption | (repeat first | assumption | rfl | refine aG_n ?_ rfl rfl)) ?_
                refine wp_aload_n (pc := 27) dX11_learnt_27 (by first | rfl | assumption | (repeat first | assumption | rfl | refine aG_n ?_ rfl rfl)) ?_
                refine wp_getR (pc := 28) dX11_learnt_28 fl_11_92 (by first | rfl | assumption | exact sh_house (by omega) | exact sh_wish (by omega) | exact sh_wor (by omega) | exact sh_bar (by omega) | exact sh_term (by omega) | exact sh_sheet (by omega) | exact sh_items (by omega) | exact sh_sums (by omega)) rfl ?_
                refine wp_getI (pc := 31) dX11_learnt_31 fl_11_218 (by first | rfl | assumption | exact sh_house (by omega) | exact sh_wish (by omega) | exact sh_wor (by omega) | exact sh_bar (by omega) | exact sh_term (by omega) | exact sh_sheet (by omega) | exact sh_items (by omega) | exact sh_sums (by omega)) rfl ?_
                refine wp_icmp_eq (pc := 34) (tgt := 50) dX11_learnt_34 rfl (fun q => absurd q (by rw [kp1, neq _ _ hb ha]; exact fun z => hab z.symm)) (fun _ => ?_)
                refine wp_iload_n (pc := 37) dX11_learnt_37 (by first | rfl | assumption | (repeat first | assumption | rfl | refine aG_n ?_ rfl rfl)) ?_
                refine wp_aload_n (pc := 38) dX11_learnt_38 (by first | rfl | assumption | (repeat first | assumption | rfl | refine aG_n ?_ rfl rfl)) ?_
                refine wp_getR (pc := 39) dX11_learnt_39 fl_11_92 (by first | rfl | assumption | exact sh_house (by omega) | exact sh_wish (by omega) | exact sh_wor (by omega) | exact sh_bar (by omega) | exact sh_term (by omega) | exact sh_sheet (by omega) | exact sh_items (by omega) | exact sh_sums (by omega)) rfl ?_
                refine wp_getI (pc := 42) dX11_learnt_42 fl_11_221 (by first | rfl | assumption | exact sh_house (by omega) | exact sh_wish (by omega) | exact sh_wor (by omega) | exact sh_bar (by omega) | exact sh_term (by omega) | exact sh_sheet (by omega) | exact sh_items (by omega) | exact sh_sums (by omega)) rfl ?_
                refine wp_icmp_eq (pc := 45) (tgt := 50) dX11_learnt_45 rfl (fun _ => ?_) (fun q => absurd kp3.symm q)
                refine wp_iload_n (pc := 50) dX11_learnt_50 (by first | rfl | assumption | (repeat first | assumption | rfl | refine aG_n ?_ rfl rfl)) ?_
                refine wp_aload_n (pc := 51) dX11_learnt_51 (by first | rfl | assumption | (repeat first | assumption | rfl | refine aG_n ?_ rfl rfl)) ?_
                refine wp_getR (pc := 52) dX11_learnt_52 fl_11_92 (by first | rfl | assumption | exact sh_house (by omega) | exact sh_wish (by omega) | exact sh_wor (by omega) | exact sh_bar (by omega) | exact sh_term (by omega) | exact sh_sheet (by omega) | exact sh_items (by omega) | exact sh_sums (by omega)) rfl ?_
                refine wp_getI (pc := 55) dX11_learnt_55 fl_11_218 (by first | rfl | assumption | exact sh_house (by omega) | exact sh_wish (by omega) | exact sh_wor (by omega) | exact sh_bar (by omega) | exact sh_term (by omega) | exact sh_sheet (by omega) | exact sh_items (by omega) | exact sh_sums (by omega)) rfl ?_
                refine wp_icmp_ne (pc := 58) (tgt := 65) dX11_learnt_58 rfl (fun _ => ?_) (fun q => absurd q (by rw [kp1, neq _ _ hb ha]; exact fun z => hab z.symm))
                refine wp_iconst (pc := 65) (v := 1) dX11_learnt_65 (by decide) ?_
                refine wp_istore_n (pc := 66) dX11_learnt_66 (by decide) ?_
                refine wp_aload_n (pc := 67) dX11_learnt_67 (by first | rfl | assumption | (repeat first | assumption | rfl | refine aG_n ?_ rfl rfl)) ?_
                refine wp_getR (pc := 68) dX11_learnt_68 fl_11_92 (by first | rfl | assumption | exact sh_house (by omega) | exact sh_wish (by omega) | exact sh_wor (by omega) | exact sh_bar (by omega) | exact sh_term (by omega) | exact sh_sheet (by omega) | exact sh_items (by omega) | exact sh_sums (by omega)) rfl ?_
                refine wp_iload_n (pc := 71) dX11_learnt_71 (by first | rfl | assumption | (repeat first | assumption | rfl | refine aG_n ?_ rfl rfl)) ?_
                refine wp_cV (pc := 72) dX11_learnt_72 lk_11_255 rfl (by decide) rfl (by first | rfl | assumption | exact sh_house (by omega) | exact sh_wish (by omega) | exact sh_wor (by omega) | exact sh_bar (by omega) | exact sh_term (by omega) | exact sh_sheet (by omega) | exact sh_items (by omega) | exact sh_sums (by omega)) rfl rfl ?_
                refine wp_iload_n (pc := 0) dX7_saidBy_0 (by first | rfl | assumption | (repeat first | assumption | rfl | refine aG_n ?_ rfl rfl)) ?_
                refine wp_if_ne (pc := 1) (tgt := 15) dX7_saidBy_1 rfl (fun _ => ?_) (fun q => absurd q (by decide))
                refine wp_aload_n (pc := 15) dX7_saidBy_15 (by first | rfl | assumption | (repeat first | assumption | rfl | refine aG_n ?_ rfl rfl)) ?_
                refine wp_getI (pc := 16) dX7_saidBy_16 fl_7_38 (by first | rfl | assumption | exact sh_house (by omega) | exact sh_wish (by omega) | exact sh_wor (by omega) | exact sh_bar (by omega) | exact sh_term (by omega) | exact sh_sheet (by omega) | exact sh_items (by omega) | exact sh_sums (by omega)) rfl ?_
                refine wp_iconst (pc := 19) (v := 2) dX7_saidBy_19 (by decide) ?_
                refine wp_idiv (pc := 20) dX7_saidBy_20 (by decide) ?_
                refine wp_iretK (pc := 21) dX7_saidBy_21 rfl (by first | rfl | decide | assumption) ?_
                refine wp_istore (pc := 75) dX11_learnt_75 (by decide) ?_
                refine wp_iload_n (pc := 77) dX11_learnt_77 (by first | rfl | assumption | (repeat first | assumption | rfl | refine aG_n ?_ rfl rfl)) ?_
                refine wp_iload (pc := 78) dX11_learnt_78 (by first | rfl | assumption | (repeat first | assumption | rfl | refine aG_n ?_ rfl rfl)) ?_
                refine wp_icmp_le (pc := 80) (tgt := 85) dX11_learnt_80 rfl (fun _ => ?_) (fun q => absurd (by rw [es]; exact nI_le c5 (by omega)) q)
                refine wp_aload_n (pc := 85) dX11_learnt_85 (by first | rfl | assumption | (repeat first | assumption | rfl | refine aG_n ?_ rfl rfl)) ?_
                refine wp_getR (pc := 86) dX11_learnt_86 fl_11_92 (by first | rfl | assumption | exact sh_house (by omega) | exact sh_wish (by omega) | exact sh_wor (by omega) | exact sh_bar (by omega) | exact sh_term (by omega) | exact sh_sheet (by omega) | exact sh_items (by omega) | exact sh_sums (by omega)) rfl ?_
                refine wp_getR (pc := 89) dX11_learnt_89 fl_11_199 (by first | rfl | assumption | exact sh_house (by omega) | exact sh_wish (by omega) | exact sh_wor (by omega) | exact sh_bar (by omega) | exact sh_term (by omega) | exact sh_sheet (by omega) | exact sh_items (by omega) | exact sh_sums (by omega)) rfl ?_
                refine wp_cV (pc := 92) dX11_learnt_92 lk_11_258 rfl (by decide) rfl (by first | rfl | assumption | exact sh_house (by omega) | exact sh_wish (by omega) | exact sh_wor (by omega) | exact sh_bar (by omega) | exact sh_term (by omega) | exact sh_sheet (by omega) | exact sh_items (by omega) | exact sh_sums (by omega)) rfl rfl ?_
                refine wp_aload_n (pc := 0) dX4_pool_0 (by first | rfl | assumption | (repeat first | assumption | rfl | refine aG_n ?_ rfl rfl)) ?_
                refine wp_getI (pc := 1) dX4_pool_1 fl_4_21 (by first | rfl | assumption | exact sh_house (by omega) | exact sh_wish (by omega) | exact sh_wor (by omega) | exact sh_bar (by omega) | exact sh_term (by omega) | exact sh_sheet (by omega) | exact sh_items (by omega) | exact sh_sums (by omega)) rfl ?_
                refine wp_aload_n (pc := 4) dX4_pool_4 (by first | rfl | assumption | (repeat first | assumption | rfl | refine aG_n ?_ rfl rfl)) ?_
                refine wp_getI (pc := 5) dX4_pool_5 fl_4_24 (by first | rfl | assumption | exact sh_house (by omega) | exact sh_wish (by omega) | exact sh_wor (by omega) | exact sh_bar (by omega) | exact sh_term (by omega) | exact sh_sheet (by omega) | exact sh_items (by omega) | exact sh_sums (by omega)) rfl ?_
                refine wp_ior (pc := 8) dX4_pool_8 ?_
                refine wp_iretK (pc := 9) dX4_pool_9 rfl (by first | rfl | decide | assumption) ?_
                refine wp_cS (pc := 95) dX11_learnt_95 lk_11_261 rfl rfl rfl ?_
                rw [ep]
                refine c_bitc hp ?_
                rw [epc]
                refine aK_i ?_
                refine wp_iconst (pc := 98) (v := 4) dX11_learnt_98 (by decide) ?_
                refine wp_icmp_le (pc := 99) (tgt := 105) dX11_learnt_99 rfl (fun q => absurd q (nI_ge (a := 4) (by omega) (by omega))) (fun _ => ?_)
                refine wp_bipush (pc := 102) (v := -2) dX11_learnt_102 (by decide) ?_
                refine wp_ireturn (pc := 104) dX11_learnt_104 rfl (by first | rfl | decide | assumption) ?_
                refine k _ _ (fun Q' k' => ?_)
                refine wp_iload_n (pc := 0) dX12_learnt_0 (by first | rfl | assumption | (repeat first | assumption | rfl | refine aG_n ?_ rfl rfl)) ?_
                refine wp_cS (pc := 1) dX12_learnt_1 lk_12_143 rfl rfl rfl (c_X12_isHouse (fun _ => aK_i ?_) (fun q => absurd c1 q))
                refine wp_if_eq (pc := 4) (tgt := 11) dX12_learnt_4 rfl (fun q => absurd q (by decide)) (fun _ => ?_)
                refine wp_iload_n (pc := 7) dX12_learnt_7 (by first | rfl | assumption | (repeat first | assumption | rfl | refine aG_n ?_ rfl rfl)) ?_
                refine wp_if_ge (pc := 8) (tgt := 13) dX12_learnt_8 rfl (fun _ => ?_) (fun q => absurd c2' q)
                refine wp_aload_n (pc := 13) dX12_learnt_13 (by first | rfl | assumption | (repeat first | assumption | rfl | refine aG_n ?_ rfl rfl)) ?_
                refine wp_getI (pc := 14) dX12_learnt_14 fl_12_137 (by first | rfl | assumption | exact sh_house (by omega) | exact sh_wish (by omega) | exact sh_wor (by omega) | exact sh_bar (by omega) | exact sh_term (by omega) | exact sh_sheet (by omega) | exact sh_items (by omega) | exact sh_sums (by omega)) rfl ?_
                refine wp_if_ne (pc := 17) (tgt := 23) dX12_learnt_17 rfl (fun _ => ?_) (fun q => absurd q c3)
                refine wp_iload_n (pc := 23) dX12_learnt_23 (by first | rfl | assumption | (repeat first | assumption | rfl | refine aG_n ?_ rfl rfl)) ?_
                refine wp_aload_n (pc := 24) dX12_learnt_24 (by first | rfl | assumption | (repeat first | assumption | rfl | refine aG_n ?_ rfl rfl)) ?_
                refine wp_getI (pc := 25) dX12_learnt_25 fl_12_235 (by first | rfl | assumption | exact sh_house (by omega) | exact sh_wish (by omega) | exact sh_wor (by omega) | exact sh_bar (by omega) | exact sh_term (by omega) | exact sh_sheet (by omega) | exact sh_items (by omega) | exact sh_sums (by omega)) rfl ?_
                refine wp_icmp_eq (pc := 28) (tgt := 39) dX12_learnt_28 rfl (fun q => absurd q (by rw [kp2, neq _ _ hb ha]; exact fun z => hab z.symm)) (fun _ => ?_)
                refine wp_iload_n (pc := 31) dX12_learnt_31 (by first | rfl | assumption | (repeat first | assumption | rfl | refine aG_n ?_ rfl rfl)) ?_
                refine wp_aload_n (pc := 32) dX12_learnt_32 (by first | rfl | assumption | (repeat first | assumption | rfl | refine aG_n ?_ rfl rfl)) ?_
                refine wp_getI (pc := 33) dX12_learnt_33 fl_12_238 (by first | rfl | assumption | exact sh_house (by omega) | exact sh_wish (by omega) | exact sh_wor (by omega) | exact sh_bar (by omega) | exact sh_term (by omega) | exact sh_sheet (by omega) | exact sh_items (by omega) | exact sh_sums (by omega)) rfl ?_
                refine wp_icmp_ne (pc := 36) (tgt := 48) dX12_learnt_36 rfl (fun q => absurd (by rw [kp4]) q) (fun _ => ?_)
                refine wp_iload_n (pc := 39) dX12_learnt_39 (by first | rfl | assumption | (repeat first | assumption | rfl | refine aG_n ?_ rfl rfl)) ?_
                refine wp_aload_n (pc := 40) dX12_learnt_40 (by first | rfl | assumption | (repeat first | assumption | rfl | refine aG_n ?_ rfl rfl)) ?_
                refine wp_iload_n (pc := 41) dX12_learnt_41 (by first | rfl | assumption | (repeat first | assumption | rfl | refine aG_n ?_ rfl rfl)) ?_
                refine wp_cV (pc := 42) dX12_learnt_42 lk_12_301 rfl (by decide) rfl (by first | rfl | assumption | exact sh_house (by omega) | exact sh_wish (by omega) | exact sh_wor (by omega) | exact sh_bar (by omega) | exact sh_term (by omega) | exact sh_sheet (by omega) | exact sh_items (by omega) | exact sh_sums (by omega)) rfl rfl ?_
                refine wp_iload_n (pc := 0) dX12_saidBy_0 (by first | rfl | assumption | (repeat first | assumption | rfl | refine aG_n ?_ rfl rfl)) ?_
                refine wp_aload_n (pc := 1) dX12_saidBy_1 (by first | rfl | assumption | (repeat first | assumption | rfl | refine aG_n ?_ rfl rfl)) ?_
                refine wp_getI (pc := 2) dX12_saidBy_2 fl_12_235 (by first | rfl | assumption | exact sh_house (by omega) | exact sh_wish (by omega) | exact sh_wor (by omega) | exact sh_bar (by omega) | exact sh_term (by omega) | exact sh_sheet (by omega) | exact sh_items (by omega) | exact sh_sums (by omega)) rfl ?_
                refine wp_icmp_ne (pc := 5) (tgt := 19) dX12_saidBy_5 rfl (fun _ => ?_) (fun q => absurd q (by rw [kp2, neq _ _ hb ha]; exact fun z => hab z.symm))
                refine wp_aload_n (pc := 19) dX12_saidBy_19 (by first | rfl | assumption | (repeat first | assumption | rfl | refine aG_n ?_ rfl rfl)) ?_
                refine wp_getI (pc := 20) dX12_saidBy_20 fl_12_244 (by first | rfl | assumption | exact sh_house (by omega) | exact sh_wish (by omega) | exact sh_wor (by omega) | exact sh_bar (by omega) | exact sh_term (by omega) | exact sh_sheet (by omega) | exact sh_items (by omega) | exact sh_sums (by omega)) rfl ?_
                refine wp_iconst (pc := 23) (v := 2) dX12_saidBy_23 (by decide) ?_
                refine wp_idiv (pc := 24) dX12_saidBy_24 (by decide) ?_
                refine wp_iretK (pc := 25) dX12_saidBy_25 rfl (by first | rfl | decide | assumption) ?_
                refine wp_icmp_le (pc := 45) (tgt := 50) dX12_learnt_45 rfl (fun _ => ?_) (fun q => absurd (by rw [l32, ← l31, es]; exact nI_le c5 (by omega)) q)
                skip
                exact m_count (m := m) (sd := w / 2) (d := 1) hW hL (by decide) (fun x hx => by omega) c5 (by omega) esm rfl (fun _ μ2 o2 => k' _ (Inv_A hI Smm.rfl rfl o2)) (fun z => absurd z c6) _ (by first | rfl | assumption | (repeat first | assumption | rfl | refine aG_n ?_ rfl rfl)) (by first | rfl | assumption | (repeat first | assumption | rfl | refine aG_n ?_ rfl rfl)) (by first | rfl | assumption | (repeat first | assumption | rfl | refine aG_n ?_ rfl rfl))
            · refine wp_iload_n (pc := 0) dX11_learnt_0 (by first | rfl | assumption | (repeat first | assumption | rfl | refine aG_n ?_ rfl rfl)) ?_
              refine wp_cS (pc := 1) dX11_learnt_1 lk_11_101 rfl rfl rfl (c_X11_isHouse (fun _ => aK_i ?_) (fun q => absurd c1 q))
              refine wp_if_eq (pc := 4) (tgt := 11) dX11_learnt_4 rfl (fun q => absurd q (by decide)) (fun _ => ?_)
              refine wp_iload_n (pc := 7) dX11_learnt_7 (by first | rfl | assumption | (repeat first | assumption | rfl | refine aG_n ?_ rfl rfl)) ?_
              refine wp_if_ge (pc := 8) (tgt := 13) dX11_learnt_8 rfl (fun _ => ?_) (fun q => absurd c2' q)
              refine wp_aload_n (pc := 13) dX11_learnt_13 (by first | rfl | assumption | (repeat first | assumption | rfl | refine aG_n ?_ rfl rfl)) ?_
              refine wp_getR (pc := 14) dX11_learnt_14 fl_11_92 (by first | rfl | assumption | exact sh_house (by omega) | exact sh_wish (by omega) | exact sh_wor (by omega) | exact sh_bar (by omega) | exact sh_term (by omega) | exact sh_sheet (by omega) | exact sh_items (by omega) | exact sh_sums (by omega)) rfl ?_
              refine wp_getI (pc := 17) dX11_learnt_17 fl_11_206 (by first | rfl | assumption | exact sh_house (by omega) | exact sh_wish (by omega) | exact sh_wor (by omega) | exact sh_bar (by omega) | exact sh_term (by omega) | exact sh_sheet (by omega) | exact sh_items (by omega) | exact sh_sums (by omega)) rfl ?_
              refine wp_if_ne (pc := 20) (tgt := 26) dX11_learnt_20 rfl (fun _ => ?_) (fun q => absurd q c3')
              refine wp_iload_n (pc := 26) dX11_learnt_26 (by first | rfl | assumption | (repeat first | assumption | rfl | refine aG_n ?_ rfl rfl)) ?_
              refine wp_aload_n (pc := 27) dX11_learnt_27 (by first | rfl | assumption | (repeat first | assumption | rfl | refine aG_n ?_ rfl rfl)) ?_
              refine wp_getR (pc := 28) dX11_learnt_28 fl_11_92 (by first | rfl | assumption | exact sh_house (by omega) | exact sh_wish (by omega) | exact sh_wor (by omega) | exact sh_bar (by omega) | exact sh_term (by omega) | exact sh_sheet (by omega) | exact sh_items (by omega) | exact sh_sums (by omega)) rfl ?_
              refine wp_getI (pc := 31) dX11_learnt_31 fl_11_218 (by first | rfl | assumption | exact sh_house (by omega) | exact sh_wish (by omega) | exact sh_wor (by omega) | exact sh_bar (by omega) | exact sh_term (by omega) | exact sh_sheet (by omega) | exact sh_items (by omega) | exact sh_sums (by omega)) rfl ?_
              refine wp_icmp_eq (pc := 34) (tgt := 50) dX11_learnt_34 rfl (fun q => absurd q (by rw [kp1, neq _ _ hb ha]; exact fun z => hab z.symm)) (fun _ => ?_)
              refine wp_iload_n (pc := 37) dX11_learnt_37 (by first | rfl | assumption | (repeat first | assumption | rfl | refine aG_n ?_ rfl rfl)) ?_
              refine wp_aload_n (pc := 38) dX11_learnt_38 (by first | rfl | assumption | (repeat first | assumption | rfl | refine aG_n ?_ rfl rfl)) ?_
              refine wp_getR (pc := 39) dX11_learnt_39 fl_11_92 (by first | rfl | assumption | exact sh_house (by omega) | exact sh_wish (by omega) | exact sh_wor (by omega) | exact sh_bar (by omega) | exact sh_term (by omega) | exact sh_sheet (by omega) | exact sh_items (by omega) | exact sh_sums (by omega)) rfl ?_
              refine wp_getI (pc := 42) dX11_learnt_42 fl_11_221 (by first | rfl | assumption | exact sh_house (by omega) | exact sh_wish (by omega) | exact sh_wor (by omega) | exact sh_bar (by omega) | exact sh_term (by omega) | exact sh_sheet (by omega) | exact sh_items (by omega) | exact sh_sums (by omega)) rfl ?_
              refine wp_icmp_eq (pc := 45) (tgt := 50) dX11_learnt_45 rfl (fun _ => ?_) (fun q => absurd kp3.symm q)
              refine wp_iload_n (pc := 50) dX11_learnt_50 (by first | rfl | assumption | (repeat first | assumption | rfl | refine aG_n ?_ rfl rfl)) ?_
              refine wp_aload_n (pc := 51) dX11_learnt_51 (by first | rfl | assumption | (repeat first | assumption | rfl | refine aG_n ?_ rfl rfl)) ?_
              refine wp_getR (pc := 52) dX11_learnt_52 fl_11_92 (by first | rfl | assumption | exact sh_house (by omega) | exact sh_wish (by omega) | exact sh_wor (by omega) | exact sh_bar (by omega) | exact sh_term (by omega) | exact sh_sheet (by omega) | exact sh_items (by omega) | exact sh_sums (by omega)) rfl ?_
              refine wp_getI (pc := 55) dX11_learnt_55 fl_11_218 (by first | rfl | assumption | exact sh_house (by omega) | exact sh_wish (by omega) | exact sh_wor (by omega) | exact sh_bar (by omega) | exact sh_term (by omega) | exact sh_sheet (by omega) | exact sh_items (by omega) | exact sh_sums (by omega)) rfl ?_
              refine wp_icmp_ne (pc := 58) (tgt := 65) dX11_learnt_58 rfl (fun _ => ?_) (fun q => absurd q (by rw [kp1, neq _ _ hb ha]; exact fun z => hab z.symm))
              refine wp_iconst (pc := 65) (v := 1) dX11_learnt_65 (by decide) ?_
              refine wp_istore_n (pc := 66) dX11_learnt_66 (by decide) ?_
              refine wp_aload_n (pc := 67) dX11_learnt_67 (by first | rfl | assumption | (repeat first | assumption | rfl | refine aG_n ?_ rfl rfl)) ?_
              refine wp_getR (pc := 68) dX11_learnt_68 fl_11_92 (by first | rfl | assumption | exact sh_house (by omega) | exact sh_wish (by omega) | exact sh_wor (by omega) | exact sh_bar (by omega) | exact sh_term (by omega) | exact sh_sheet (by omega) | exact sh_items (by omega) | exact sh_sums (by omega)) rfl ?_
              refine wp_iload_n (pc := 71) dX11_learnt_71 (by first | rfl | assumption | (repeat first | assumption | rfl | refine aG_n ?_ rfl rfl)) ?_
              refine wp_cV (pc := 72) dX11_learnt_72 lk_11_255 rfl (by decide) rfl (by first | rfl | assumption | exact sh_house (by omega) | exact sh_wish (by omega) | exact sh_wor (by omega) | exact sh_bar (by omega) | exact sh_term (by omega) | exact sh_sheet (by omega) | exact sh_items (by omega) | exact sh_sums (by omega)) rfl rfl ?_
              refine wp_iload_n (pc := 0) dX7_saidBy_0 (by first | rfl | assumption | (repeat first | assumption | rfl | refine aG_n ?_ rfl rfl)) ?_
              refine wp_if_ne (pc := 1) (tgt := 15) dX7_saidBy_1 rfl (fun _ => ?_) (fun q => absurd q (by decide))
              refine wp_aload_n (pc := 15) dX7_saidBy_15 (by first | rfl | assumption | (repeat first | assumption | rfl | refine aG_n ?_ rfl rfl)) ?_
              refine wp_getI (pc := 16) dX7_saidBy_16 fl_7_38 (by first | rfl | assumption | exact sh_house (by omega) | exact sh_wish (by omega) | exact sh_wor (by omega) | exact sh_bar (by omega) | exact sh_term (by omega) | exact sh_sheet (by omega) | exact sh_items (by omega) | exact sh_sums (by omega)) rfl ?_
              refine wp_iconst (pc := 19) (v := 2) dX7_saidBy_19 (by decide) ?_
              refine wp_idiv (pc := 20) dX7_saidBy_20 (by decide) ?_
              refine wp_iretK (pc := 21) dX7_saidBy_21 rfl (by first | rfl | decide | assumption) ?_
              refine wp_istore (pc := 75) dX11_learnt_75 (by decide) ?_
              refine wp_iload_n (pc := 77) dX11_learnt_77 (by first | rfl | assumption | (repeat first | assumption | rfl | refine aG_n ?_ rfl rfl)) ?_
              refine wp_iload (pc := 78) dX11_learnt_78 (by first | rfl | assumption | (repeat first | assumption | rfl | refine aG_n ?_ rfl rfl)) ?_
              refine wp_icmp_le (pc := 80) (tgt := 85) dX11_learnt_80 rfl (fun q => absurd q (by rw [es]; exact nI_ge (by omega) (by omega))) (fun _ => ?_)
              refine wp_iconst (pc := 83) (v := -1) dX11_learnt_83 (by decide) ?_
              refine wp_ireturn (pc := 84) dX11_learnt_84 rfl (by first | rfl | decide | assumption) ?_
              refine k _ _ (fun Q' k' => ?_)
              refine wp_iload_n (pc := 0) dX12_learnt_0 (by first | rfl | assumption | (repeat first | assumption | rfl | refine aG_n ?_ rfl rfl)) ?_
              refine wp_cS (pc := 1) dX12_learnt_1 lk_12_143 rfl rfl rfl (c_X12_isHouse (fun _ => aK_i ?_) (fun q => absurd c1 q))
              refine wp_if_eq (pc := 4) (tgt := 11) dX12_learnt_4 rfl (fun q => absurd q (by decide)) (fun _ => ?_)
              refine wp_iload_n (pc := 7) dX12_learnt_7 (by first | rfl | assumption | (repeat first | assumption | rfl | refine aG_n ?_ rfl rfl)) ?_
              refine wp_if_ge (pc := 8) (tgt := 13) dX12_learnt_8 rfl (fun _ => ?_) (fun q => absurd c2' q)
              refine wp_aload_n (pc := 13) dX12_learnt_13 (by first | rfl | assumption | (repeat first | assumption | rfl | refine aG_n ?_ rfl rfl)) ?_
              refine wp_getI (pc := 14) dX12_learnt_14 fl_12_137 (by first | rfl | assumption | exact sh_house (by omega) | exact sh_wish (by omega) | exact sh_wor (by omega) | exact sh_bar (by omega) | exact sh_term (by omega) | exact sh_sheet (by omega) | exact sh_items (by omega) | exact sh_sums (by omega)) rfl ?_
              refine wp_if_ne (pc := 17) (tgt := 23) dX12_learnt_17 rfl (fun _ => ?_) (fun q => absurd q c3)
              refine wp_iload_n (pc := 23) dX12_learnt_23 (by first | rfl | assumption | (repeat first | assumption | rfl | refine aG_n ?_ rfl rfl)) ?_
              refine wp_aload_n (pc := 24) dX12_learnt_24 (by first | rfl | assumption | (repeat first | assumption | rfl | refine aG_n ?_ rfl rfl)) ?_
              refine wp_getI (pc := 25) dX12_learnt_25 fl_12_235 (by first | rfl | assumption | exact sh_house (by omega) | exact sh_wish (by omega) | exact sh_wor (by omega) | exact sh_bar (by omega) | exact sh_term (by omega) | exact sh_sheet (by omega) | exact sh_items (by omega) | exact sh_sums (by omega)) rfl ?_
              refine wp_icmp_eq (pc := 28) (tgt := 39) dX12_learnt_28 rfl (fun q => absurd q (by rw [kp2, neq _ _ hb ha]; exact fun z => hab z.symm)) (fun _ => ?_)
              refine wp_iload_n (pc := 31) dX12_learnt_31 (by first | rfl | assumption | (repeat first | assumption | rfl | refine aG_n ?_ rfl rfl)) ?_
              refine wp_aload_n (pc := 32) dX12_learnt_32 (by first | rfl | assumption | (repeat first | assumption | rfl | refine aG_n ?_ rfl rfl)) ?_
              refine wp_getI (pc := 33) dX12_learnt_33 fl_12_238 (by first | rfl | assumption | exact sh_house (by omega) | exact sh_wish (by omega) | exact sh_wor (by omega) | exact sh_bar (by omega) | exact sh_term (by omega) | exact sh_sheet (by omega) | exact sh_items (by omega) | exact sh_sums (by omega)) rfl ?_
              refine wp_icmp_ne (pc := 36) (tgt := 48) dX12_learnt_36 rfl (fun q => absurd (by rw [kp4]) q) (fun _ => ?_)
              refine wp_iload_n (pc := 39) dX12_learnt_39 (by first | rfl | assumption | (repeat first | assumption | rfl | refine aG_n ?_ rfl rfl)) ?_
              refine wp_aload_n (pc := 40) dX12_learnt_40 (by first | rfl | assumption | (repeat first | assumption | rfl | refine aG_n ?_ rfl rfl)) ?_
              refine wp_iload_n (pc := 41) dX12_learnt_41 (by first | rfl | assumption | (repeat first | assumption | rfl | refine aG_n ?_ rfl rfl)) ?_
              refine wp_cV (pc := 42) dX12_learnt_42 lk_12_301 rfl (by decide) rfl (by first | rfl | assumption | exact sh_house (by omega) | exact sh_wish (by omega) | exact sh_wor (by omega) | exact sh_bar (by omega) | exact sh_term (by omega) | exact sh_sheet (by omega) | exact sh_items (by omega) | exact sh_sums (by omega)) rfl rfl ?_
              refine wp_iload_n (pc := 0) dX12_saidBy_0 (by first | rfl | assumption | (repeat first | assumption | rfl | refine aG_n ?_ rfl rfl)) ?_
              refine wp_aload_n (pc := 1) dX12_saidBy_1 (by first | rfl | assumption | (repeat first | assumption | rfl | refine aG_n ?_ rfl rfl)) ?_
              refine wp_getI (pc := 2) dX12_saidBy_2 fl_12_235 (by first | rfl | assumption | exact sh_house (by omega) | exact sh_wish (by omega) | exact sh_wor (by omega) | exact sh_bar (by omega) | exact sh_term (by omega) | exact sh_sheet (by omega) | exact sh_items (by omega) | exact sh_sums (by omega)) rfl ?_
              refine wp_icmp_ne (pc := 5) (tgt := 19) dX12_saidBy_5 rfl (fun _ => ?_) (fun q => absurd q (by rw [kp2, neq _ _ hb ha]; exact fun z => hab z.symm))
              refine wp_aload_n (pc := 19) dX12_saidBy_19 (by first | rfl | assumption | (repeat first | assumption | rfl | refine aG_n ?_ rfl rfl)) ?_
              refine wp_getI (pc := 20) dX12_saidBy_20 fl_12_244 (by first | rfl | assumption | exact sh_house (by omega) | exact sh_wish (by omega) | exact sh_wor (by omega) | exact sh_bar (by omega) | exact sh_term (by omega) | exact sh_sheet (by omega) | exact sh_items (by omega) | exact sh_sums (by omega)) rfl ?_
              refine wp_iconst (pc := 23) (v := 2) dX12_saidBy_23 (by decide) ?_
              refine wp_idiv (pc := 24) dX12_saidBy_24 (by decide) ?_
              refine wp_iretK (pc := 25) dX12_saidBy_25 rfl (by first | rfl | decide | assumption) ?_
              refine wp_icmp_le (pc := 45) (tgt := 50) dX12_learnt_45 rfl (fun q => absurd q (by rw [l32, ← l31, es]; exact nI_ge (by omega) (by omega))) (fun _ => ?_)
              refine wp_iconst (pc := 48) (v := -1) dX12_learnt_48 (by decide) ?_
              refine wp_ireturn (pc := 49) dX12_learnt_49 rfl (by first | rfl | decide | assumption) ?_
              exact k' _ hI
          · have na : ¬ nI i = μ.1 73 1 := by rw [kp1, neq _ _ (by omega) ha]; exact ea
            have nb : ¬ nI i = μ.1 73 2 := by rw [kp3, neq _ _ (by omega) hb]; exact eb
            refine wp_iload_n (pc := 0) dX11_learnt_0 (by first | rfl | assumption | (repeat first | assumption | rfl | refine aG_n ?_ rfl rfl)) ?_
            refine wp_cS (pc := 1) dX11_learnt_1 lk_11_101 rfl rfl rfl (c_X11_isHouse (fun _ => aK_i ?_) (fun q => absurd c1 q))
            refine wp_if_eq (pc := 4) (tgt := 11) dX11_learnt_4 rfl (fun q => absurd q (by decide)) (fun _ => ?_)
            refine wp_iload_n (pc := 7) dX11_learnt_7 (by first | rfl | assumption | (repeat first | assumption | rfl | refine aG_n ?_ rfl rfl)) ?_
            refine wp_if_ge (pc := 8) (tgt := 13) dX11_learnt_8 rfl (fun _ => ?_) (fun q => absurd c2' q)
            refine wp_aload_n (pc := 13) dX11_learnt_13 (by first | rfl | assumption | (repeat first | assumption | rfl | refine aG_n ?_ rfl rfl)) ?_
            refine wp_getR (pc := 14) dX11_learnt_14 fl_11_92 (by first | rfl | assumption | exact sh_house (by omega) | exact sh_wish (by omega) | exact sh_wor (by omega) | exact sh_bar (by omega) | exact sh_term (by omega) | exact sh_sheet (by omega) | exact sh_items (by omega) | exact sh_sums (by omega)) rfl ?_
            refine wp_getI (pc := 17) dX11_learnt_17 fl_11_206 (by first | rfl | assumption | exact sh_house (by omega) | exact sh_wish (by omega) | exact sh_wor (by omega) | exact sh_bar (by omega) | exact sh_term (by omega) | exact sh_sheet (by omega) | exact sh_items (by omega) | exact sh_sums (by omega)) rfl ?_
            refine wp_if_ne (pc := 20) (tgt := 26) dX11_learnt_20 rfl (fun _ => ?_) (fun q => absurd q c3')
            refine wp_iload_n (pc := 26) dX11_learnt_26 (by first | rfl | assumption | (repeat first | assumption | rfl | refine aG_n ?_ rfl rfl)) ?_
            refine wp_aload_n (pc := 27) dX11_learnt_27 (by first | rfl | assumption | (repeat first | assumption | rfl | refine aG_n ?_ rfl rfl)) ?_
            refine wp_getR (pc := 28) dX11_learnt_28 fl_11_92 (by first | rfl | assumption | exact sh_house (by omega) | exact sh_wish (by omega) | exact sh_wor (by omega) | exact sh_bar (by omega) | exact sh_term (by omega) | exact sh_sheet (by omega) | exact sh_items (by omega) | exact sh_sums (by omega)) rfl ?_
            refine wp_getI (pc := 31) dX11_learnt_31 fl_11_218 (by first | rfl | assumption | exact sh_house (by omega) | exact sh_wish (by omega) | exact sh_wor (by omega) | exact sh_bar (by omega) | exact sh_term (by omega) | exact sh_sheet (by omega) | exact sh_items (by omega) | exact sh_sums (by omega)) rfl ?_
            refine wp_icmp_eq (pc := 34) (tgt := 50) dX11_learnt_34 rfl (fun q => absurd q na) (fun _ => ?_)
            refine wp_iload_n (pc := 37) dX11_learnt_37 (by first | rfl | assumption | (repeat first | assumption | rfl | refine aG_n ?_ rfl rfl)) ?_
            refine wp_aload_n (pc := 38) dX11_learnt_38 (by first | rfl | assumption | (repeat first | assumption | rfl | refine aG_n ?_ rfl rfl)) ?_
            refine wp_getR (pc := 39) dX11_learnt_39 fl_11_92 (by first | rfl | assumption | exact sh_house (by omega) | exact sh_wish (by omega) | exact sh_wor (by omega) | exact sh_bar (by omega) | exact sh_term (by omega) | exact sh_sheet (by omega) | exact sh_items (by omega) | exact sh_sums (by omega)) rfl ?_
            refine wp_getI (pc := 42) dX11_learnt_42 fl_11_221 (by first | rfl | assumption | exact sh_house (by omega) | exact sh_wish (by omega) | exact sh_wor (by omega) | exact sh_bar (by omega) | exact sh_term (by omega) | exact sh_sheet (by omega) | exact sh_items (by omega) | exact sh_sums (by omega)) rfl ?_
            refine wp_icmp_eq (pc := 45) (tgt := 50) dX11_learnt_45 rfl (fun q => absurd q nb) (fun _ => ?_)
            refine wp_iconst (pc := 48) (v := -1) dX11_learnt_48 (by decide) ?_
            refine wp_ireturn (pc := 49) dX11_learnt_49 rfl (by first | rfl | decide | assumption) ?_
            refine k _ _ (fun Q' k' => ?_)
            refine wp_iload_n (pc := 0) dX12_learnt_0 (by first | rfl | assumption | (repeat first | assumption | rfl | refine aG_n ?_ rfl rfl)) ?_
            refine wp_cS (pc := 1) dX12_learnt_1 lk_12_143 rfl rfl rfl (c_X12_isHouse (fun _ => aK_i ?_) (fun q => absurd c1 q))
            refine wp_if_eq (pc := 4) (tgt := 11) dX12_learnt_4 rfl (fun q => absurd q (by decide)) (fun _ => ?_)
            refine wp_iload_n (pc := 7) dX12_learnt_7 (by first | rfl | assumption | (repeat first | assumption | rfl | refine aG_n ?_ rfl rfl)) ?_
            refine wp_if_ge (pc := 8) (tgt := 13) dX12_learnt_8 rfl (fun _ => ?_) (fun q => absurd c2' q)
            refine wp_aload_n (pc := 13) dX12_learnt_13 (by first | rfl | assumption | (repeat first | assumption | rfl | refine aG_n ?_ rfl rfl)) ?_
            refine wp_getI (pc := 14) dX12_learnt_14 fl_12_137 (by first | rfl | assumption | exact sh_house (by omega) | exact sh_wish (by omega) | exact sh_wor (by omega) | exact sh_bar (by omega) | exact sh_term (by omega) | exact sh_sheet (by omega) | exact sh_items (by omega) | exact sh_sums (by omega)) rfl ?_
            refine wp_if_ne (pc := 17) (tgt := 23) dX12_learnt_17 rfl (fun _ => ?_) (fun q => absurd q c3)
            refine wp_iload_n (pc := 23) dX12_learnt_23 (by first | rfl | assumption | (repeat first | assumption | rfl | refine aG_n ?_ rfl rfl)) ?_
            refine wp_aload_n (pc := 24) dX12_learnt_24 (by first | rfl | assumption | (repeat first | assumption | rfl | refine aG_n ?_ rfl rfl)) ?_
            refine wp_getI (pc := 25) dX12_learnt_25 fl_12_235 (by first | rfl | assumption | exact sh_house (by omega) | exact sh_wish (by omega) | exact sh_wor (by omega) | exact sh_bar (by omega) | exact sh_term (by omega) | exact sh_sheet (by omega) | exact sh_items (by omega) | exact sh_sums (by omega)) rfl ?_
            refine wp_icmp_eq (pc := 28) (tgt := 39) dX12_learnt_28 rfl (fun q => absurd q (by rw [kp2, neq _ _ (by omega) ha]; exact ea)) (fun _ => ?_)
            refine wp_iload_n (pc := 31) dX12_learnt_31 (by first | rfl | assumption | (repeat first | assumption | rfl | refine aG_n ?_ rfl rfl)) ?_
            refine wp_aload_n (pc := 32) dX12_learnt_32 (by first | rfl | assumption | (repeat first | assumption | rfl | refine aG_n ?_ rfl rfl)) ?_
            refine wp_getI (pc := 33) dX12_learnt_33 fl_12_238 (by first | rfl | assumption | exact sh_house (by omega) | exact sh_wish (by omega) | exact sh_wor (by omega) | exact sh_bar (by omega) | exact sh_term (by omega) | exact sh_sheet (by omega) | exact sh_items (by omega) | exact sh_sums (by omega)) rfl ?_
            refine wp_icmp_ne (pc := 36) (tgt := 48) dX12_learnt_36 rfl (fun _ => ?_) (fun q => absurd q (by rw [kp4, neq _ _ (by omega) hb]; exact eb))
            refine wp_iconst (pc := 48) (v := -1) dX12_learnt_48 (by decide) ?_
            refine wp_ireturn (pc := 49) dX12_learnt_49 rfl (by first | rfl | decide | assumption) ?_
            exact k' _ hI
  · refine wp_iload_n (pc := 0) dX11_learnt_0 (by first | rfl | assumption | (repeat first | assumption | rfl | refine aG_n ?_ rfl rfl)) ?_
    refine wp_cS (pc := 1) dX11_learnt_1 lk_11_101 rfl rfl rfl (c_X11_isHouse (fun q => absurd q c1) (fun _ => aK_i ?_))
    refine wp_if_eq (pc := 4) (tgt := 11) dX11_learnt_4 rfl (fun _ => ?_) (fun q => absurd q (by decide))
    refine wp_iconst (pc := 11) (v := -1) dX11_learnt_11 (by decide) ?_
    refine wp_ireturn (pc := 12) dX11_learnt_12 rfl (by first | rfl | decide | assumption) ?_
    refine k _ _ (fun Q' k' => ?_)
    refine wp_iload_n (pc := 0) dX12_learnt_0 (by first | rfl | assumption | (repeat first | assumption | rfl | refine aG_n ?_ rfl rfl)) ?_
    refine wp_cS (pc := 1) dX12_learnt_1 lk_12_143 rfl rfl rfl (c_X12_isHouse (fun q => absurd q c1) (fun _ => aK_i ?_))
    refine wp_if_eq (pc := 4) (tgt := 11) dX12_learnt_4 rfl (fun _ => ?_) (fun q => absurd q (by decide))
    refine wp_iconst (pc := 11) (v := -1) dX12_learnt_11 (by decide) ?_
    refine wp_ireturn (pc := 12) dX12_learnt_12 rfl (by first | rfl | decide | assumption) ?_
    exact k' _ hI

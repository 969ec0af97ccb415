/-! reading a WISH: the class -/
def DR (μ μ' : Mm) (p : Nat) : Prop := (∀ c j, ¬ (c = 2 ∧ j = 2) → ¬ (4 ≤ c ∧ c ≤ 6) → μ'.1 c j = μ.1 c j) ∧ μ'.2 = μ.2 ∧ μ'.1 2 2 = nI p
theorem PL.dr {μ μ' : Mm} {p : Nat} (h : PL 2 2 μ μ' p) : DR μ μ' p := ⟨fun c j h1 _ => h.1 c j h1, h.2.1, h.2.2⟩
theorem DR.trans {μ μ' μ'' : Mm} {p q : Nat} (h : DR μ μ' p) (h' : DR μ' μ'' q) : DR μ μ'' q := ⟨fun c j h1 h2 => (h'.1 c j h1 h2).trans (h.1 c j h1 h2), h'.2.1.trans h.2.1, h'.2.2⟩
theorem offW.dr {μ μ' μ'' : Mm} {p : Nat} (h : DR μ μ' p) (h' : offW 4 μ' μ'') : DR μ μ'' p := ⟨fun c j h1 h2 => (congrFun (h'.1 c (by omega)) j).trans (h.1 c j h1 h2), h'.2.trans h.2.1, (congrFun (h'.1 2 (by omega)) 2).trans h.2.2⟩
theorem TD {μ μ' : Mm} {n p : Nat} {b : Nat → Nat} (h : TG μ.1 2 1 3 b n) (hp : DR μ μ' p) : TG μ'.1 2 1 3 b n := h.c (hp.1 2 1 (by omega) (by omega)) (fun j => hp.1 3 j (by omega) (by omega))
theorem chI_b {b : Nat → Nat} {n p : Nat} (h : pB b n) (hp : p < n) : chI (b p) = nI (b p) := by
  have := h p hp
  unfold chI; rw [if_neg (by omega)]
theorem ch_b {b : Nat → Nat} {n p : Nat} (hp : p < n) : ch b n p = b p := if_pos hp
theorem dgt_e {v c : Nat} (hc : 48 ≤ c) : (10 : Int32) * nI v + nI c - 48 = nI (10 * v + c - 48) := by
  rw [show (10 : Int32) = nI 10 from rfl, pk_mul, nI_add, show (48 : Int32) = nI 48 from rfl, pk_sub (by omega)]
theorem min_e {y : Nat} (hy : y < 2 ^ 30) : (if (100 : Int32) < nI y then 100 else nI y) = nI (min y 100) := by
  show (if nI 100 < nI y then nI 100 else nI y) = _
  by_cases c : 100 < y
  · rw [if_pos (nI_lt (a := 100) c (by omega)), Nat.min_eq_right (by omega)]
  · rw [if_neg (nI_nlt (a := 100) (by omega) (by omega)), Nat.min_eq_left (by omega)]
theorem flt_neg : ∀ x, x < 91 → (-20 : Int32) - nI x < 0 := by decide +kernel
theorem flt_nle {x : Nat} (h : x ≤ 90) : ¬ 0 ≤ (-20 : Int32) - nI x := fun z => i_nle (flt_neg x (by omega)) z
section PARSEC
variable {X : aX} {μ : Mm} {Q : Option Value → Mm → Prop} {n : Nat} {b : Nat → Nat} {l ls fs : Int32}
theorem l_dig {r : Nat × Nat} (hT : TG μ.1 2 1 3 b n) (k : ∀ μ', PL 2 2 μ μ' r.1 → ∀ L : aL, aL_get L 0 = some (.ref 2) → aL_get L 1 = some (.ref 4) → aL_get L 2 = some (.int l) → aL_get L 3 = some (.int ls) → aL_get L 4 = some (.int fs) → aL_get L 5 = some (.int (nI r.2)) → WP X mX8_readNumber 120 L [] μ' Q) : ∀ (g p v : Nat), n - p = g → p ≤ n → v ≤ 100 → dF b n g p v = r → ∀ μ', PL 2 2 μ μ' p → ∀ L : aL, aL_get L 0 = some (.ref 2) → aL_get L 1 = some (.ref 4) → aL_get L 2 = some (.int l) → aL_get L 3 = some (.int ls) → aL_get L 4 = some (.int fs) → aL_get L 5 = some (.int (nI v)) → WP X mX8_readNumber 56 L [] μ' Q
  | 0, p, v, hg, hp, hv, hr, μ', hP, L, g0, g1, g2, g3, g4, g5 => by
    have hsz := (TC hT hP).2.2.1
    have hn := hT.1
    unfold dF at hr
    subst hr
    refine wp_aload_n (pc := 56) dX8_readNumber_56 (by first | rfl | assumption | (repeat first | assumption | rfl | refine aG_n ?_ rfl rfl)) ?_
    refine wp_getI (pc := 57) dX8_readNumber_57 fl_8_32 (by first | rfl | assumption | exact sh_house (by omega) | exact sh_wish (by omega) | exact sh_wor (by omega) | exact sh_bar (by omega) | exact sh_term (by omega) | exact sh_sheet (by omega) | exact sh_items (by omega) | exact sh_sums (by omega)) rfl ?_
    refine wp_aload_n (pc := 60) dX8_readNumber_60 (by first | rfl | assumption | (repeat first | assumption | rfl | refine aG_n ?_ rfl rfl)) ?_
    refine wp_getI (pc := 61) dX8_readNumber_61 fl_8_23 (by first | rfl | assumption | exact sh_house (by omega) | exact sh_wish (by omega) | exact sh_wor (by omega) | exact sh_bar (by omega) | exact sh_term (by omega) | exact sh_sheet (by omega) | exact sh_items (by omega) | exact sh_sums (by omega)) rfl ?_
    refine wp_icmp_ge (pc := 64) (tgt := 120) dX8_readNumber_64 rfl (fun _ => ?_) (fun q => absurd (by rw [hsz, hP.2.2]; exact nI_le (by omega) (by omega)) q)
    exact k _ hP _ g0 g1 g2 g3 g4 g5
  | g + 1, p, v, hg, hp, hv, hr, μ', hP, L, g0, g1, g2, g3, g4, g5 => by
    have hT' := TC hT hP
    have hsz := hT'.2.2.1
    have hn := hT.1
    have hpn : p < n := by omega
    have cp : (nI p).toNatClampNeg = p := nI_clamp (by omega)
    have hbp := hT'.2.2.2 p hpn
    have h126 := hT.2.1 p hpn
    have ecI := chI_b hT.2.1 hpn
    unfold dF at hr
    by_cases c : dg (b p)
    · rw [if_pos ⟨hpn, c⟩] at hr
      have e1 := dgt_e (v := v) c.1
      have e2 := min_e (y := 10 * v + b p - 48) (by omega)
      refine wp_aload_n (pc := 56) dX8_readNumber_56 (by first | rfl | assumption | (repeat first | assumption | rfl | refine aG_n ?_ rfl rfl)) ?_
      refine wp_getI (pc := 57) dX8_readNumber_57 fl_8_32 (by first | rfl | assumption | exact sh_house (by omega) | exact sh_wish (by omega) | exact sh_wor (by omega) | exact sh_bar (by omega) | exact sh_term (by omega) | exact sh_sheet (by omega) | exact sh_items (by omega) | exact sh_sums (by omega)) rfl ?_
      refine wp_aload_n (pc := 60) dX8_readNumber_60 (by first | rfl | assumption | (repeat first | assumption | rfl | refine aG_n ?_ rfl rfl)) ?_
      refine wp_getI (pc := 61) dX8_readNumber_61 fl_8_23 (by first | rfl | assumption | exact sh_house (by omega) | exact sh_wish (by omega) | exact sh_wor (by omega) | exact sh_bar (by omega) | exact sh_term (by omega) | exact sh_sheet (by omega) | exact sh_items (by omega) | exact sh_sums (by omega)) rfl ?_
      refine wp_icmp_ge (pc := 64) (tgt := 120) dX8_readNumber_64 rfl (fun q => absurd q (by rw [hsz, hP.2.2]; exact nI_ge (by omega) (by omega))) (fun _ => ?_)
      refine wp_aload_n (pc := 67) dX8_readNumber_67 (by first | rfl | assumption | (repeat first | assumption | rfl | refine aG_n ?_ rfl rfl)) ?_
      refine wp_getR (pc := 68) dX8_readNumber_68 fl_8_11 (by first | rfl | assumption | exact sh_house (by omega) | exact sh_wish (by omega) | exact sh_wor (by omega) | exact sh_bar (by omega) | exact sh_term (by omega) | exact sh_sheet (by omega) | exact sh_items (by omega) | exact sh_sums (by omega)) rfl ?_
      refine wp_aload_n (pc := 71) dX8_readNumber_71 (by first | rfl | assumption | (repeat first | assumption | rfl | refine aG_n ?_ rfl rfl)) ?_
      refine wp_getI (pc := 72) dX8_readNumber_72 fl_8_32 (by first | rfl | assumption | exact sh_house (by omega) | exact sh_wish (by omega) | exact sh_wor (by omega) | exact sh_bar (by omega) | exact sh_term (by omega) | exact sh_sheet (by omega) | exact sh_items (by omega) | exact sh_sums (by omega)) rfl ?_
      refine wp_iald (pc := 75) dX8_readNumber_75 (by first | rfl | assumption | exact sh_house (by omega) | exact sh_wish (by omega) | exact sh_wor (by omega) | exact sh_bar (by omega) | exact sh_term (by omega) | exact sh_sheet (by omega) | exact sh_items (by omega) | exact sh_sums (by omega)) (by rw [hP.2.2]; exact vp_in_nI (by omega) (by decide)) ?_
      refine wp_cS (pc := 76) dX8_readNumber_76 lk_8_67 rfl rfl rfl ?_
      rw [hP.2.2, cp, hbp, ← ecI]
      refine c_isDigit (by omega) (fun _ => aK_i ?_) (fun q => absurd c q)
      refine wp_if_eq (pc := 79) (tgt := 120) dX8_readNumber_79 rfl (fun q => absurd q (by decide)) (fun _ => ?_)
      refine wp_bipush (pc := 82) (v := 10) dX8_readNumber_82 (by decide) ?_
      refine wp_iload (pc := 84) dX8_readNumber_84 (by first | rfl | assumption | (repeat first | assumption | rfl | refine aG_n ?_ rfl rfl)) ?_
      refine wp_imul (pc := 86) dX8_readNumber_86 ?_
      refine wp_aload_n (pc := 87) dX8_readNumber_87 (by first | rfl | assumption | (repeat first | assumption | rfl | refine aG_n ?_ rfl rfl)) ?_
      refine wp_getR (pc := 88) dX8_readNumber_88 fl_8_11 (by first | rfl | assumption | exact sh_house (by omega) | exact sh_wish (by omega) | exact sh_wor (by omega) | exact sh_bar (by omega) | exact sh_term (by omega) | exact sh_sheet (by omega) | exact sh_items (by omega) | exact sh_sums (by omega)) rfl ?_
      refine wp_aload_n (pc := 91) dX8_readNumber_91 (by first | rfl | assumption | (repeat first | assumption | rfl | refine aG_n ?_ rfl rfl)) ?_
      refine wp_getI (pc := 92) dX8_readNumber_92 fl_8_32 (by first | rfl | assumption | exact sh_house (by omega) | exact sh_wish (by omega) | exact sh_wor (by omega) | exact sh_bar (by omega) | exact sh_term (by omega) | exact sh_sheet (by omega) | exact sh_items (by omega) | exact sh_sums (by omega)) rfl ?_
      refine wp_iald (pc := 95) dX8_readNumber_95 (by first | rfl | assumption | exact sh_house (by omega) | exact sh_wish (by omega) | exact sh_wor (by omega) | exact sh_bar (by omega) | exact sh_term (by omega) | exact sh_sheet (by omega) | exact sh_items (by omega) | exact sh_sums (by omega)) (by rw [hP.2.2]; exact vp_in_nI (by omega) (by decide)) ?_
      refine wp_iadd (pc := 96) dX8_readNumber_96 ?_
      refine wp_bipush (pc := 97) (v := 48) dX8_readNumber_97 (by decide) ?_
      refine wp_isub (pc := 99) dX8_readNumber_99 ?_
      refine wp_bipush (pc := 100) (v := 100) dX8_readNumber_100 (by decide) ?_
      refine wp_min (pc := 102) dX8_readNumber_102 lk_8_71 rfl (by decide) (by decide) (by decide) ?_
      refine wp_istore (pc := 105) dX8_readNumber_105 (by decide) ?_
      refine wp_aload_n (pc := 107) dX8_readNumber_107 (by first | rfl | assumption | (repeat first | assumption | rfl | refine aG_n ?_ rfl rfl)) ?_
      refine wp_dupr (pc := 108) dX8_readNumber_108 ?_
      refine wp_getI (pc := 109) dX8_readNumber_109 fl_8_32 (by first | rfl | assumption | exact sh_house (by omega) | exact sh_wish (by omega) | exact sh_wor (by omega) | exact sh_bar (by omega) | exact sh_term (by omega) | exact sh_sheet (by omega) | exact sh_items (by omega) | exact sh_sums (by omega)) rfl ?_
      refine wp_iconst (pc := 112) (v := 1) dX8_readNumber_112 (by decide) ?_
      refine wp_iadd (pc := 113) dX8_readNumber_113 ?_
      refine wp_putI (pc := 114) dX8_readNumber_114 fl_8_32 (by first | rfl | assumption | exact sh_house (by omega) | exact sh_wish (by omega) | exact sh_wor (by omega) | exact sh_bar (by omega) | exact sh_term (by omega) | exact sh_sheet (by omega) | exact sh_items (by omega) | exact sh_sums (by omega)) rfl rfl rfl ?_
      refine wp_goto (pc := 117) (tgt := 56) dX8_readNumber_117 rfl ?_
      skip
      rw [hP.2.2, nI_1]
      exact l_dig hT k g (p + 1) _ (by omega) (by omega) (by omega) hr _ (hP.up rfl) _ (by first | rfl | assumption | (repeat first | assumption | rfl | refine aG_n ?_ rfl rfl)) (by first | rfl | assumption | (repeat first | assumption | rfl | refine aG_n ?_ rfl rfl)) (by first | rfl | assumption | (repeat first | assumption | rfl | refine aG_n ?_ rfl rfl)) (by first | rfl | assumption | (repeat first | assumption | rfl | refine aG_n ?_ rfl rfl)) (by first | rfl | assumption | (repeat first | assumption | rfl | refine aG_n ?_ rfl rfl)) (by rw [← e2, ← e1, ← hbp, ← cp, ← hP.2.2]; simp only [hP.2.2, cp]; first | rfl | assumption | (repeat first | assumption | rfl | refine aG_n ?_ rfl rfl))
    · rw [if_neg (fun z => c z.2)] at hr
      subst hr
      refine wp_aload_n (pc := 56) dX8_readNumber_56 (by first | rfl | assumption | (repeat first | assumption | rfl | refine aG_n ?_ rfl rfl)) ?_
      refine wp_getI (pc := 57) dX8_readNumber_57 fl_8_32 (by first | rfl | assumption | exact sh_house (by omega) | exact sh_wish (by omega) | exact sh_wor (by omega) | exact sh_bar (by omega) | exact sh_term (by omega) | exact sh_sheet (by omega) | exact sh_items (by omega) | exact sh_sums (by omega)) rfl ?_
      refine wp_aload_n (pc := 60) dX8_readNumber_60 (by first | rfl | assumption | (repeat first | assumption | rfl | refine aG_n ?_ rfl rfl)) ?_
      refine wp_getI (pc := 61) dX8_readNumber_61 fl_8_23 (by first | rfl | assumption | exact sh_house (by omega) | exact sh_wish (by omega) | exact sh_wor (by omega) | exact sh_bar (by omega) | exact sh_term (by omega) | exact sh_sheet (by omega) | exact sh_items (by omega) | exact sh_sums (by omega)) rfl ?_
      refine wp_icmp_ge (pc := 64) (tgt := 120) dX8_readNumber_64 rfl (fun q => absurd q (by rw [hsz, hP.2.2]; exact nI_ge (by omega) (by omega))) (fun _ => ?_)
      refine wp_aload_n (pc := 67) dX8_readNumber_67 (by first | rfl | assumption | (repeat first | assumption | rfl | refine aG_n ?_ rfl rfl)) ?_
      refine wp_getR (pc := 68) dX8_readNumber_68 fl_8_11 (by first | rfl | assumption | exact sh_house (by omega) | exact sh_wish (by omega) | exact sh_wor (by omega) | exact sh_bar (by omega) | exact sh_term (by omega) | exact sh_sheet (by omega) | exact sh_items (by omega) | exact sh_sums (by omega)) rfl ?_
      refine wp_aload_n (pc := 71) dX8_readNumber_71 (by first | rfl | assumption | (repeat first | assumption | rfl | refine aG_n ?_ rfl rfl)) ?_
      refine wp_getI (pc := 72) dX8_readNumber_72 fl_8_32 (by first | rfl | assumption | exact sh_house (by omega) | exact sh_wish (by omega) | exact sh_wor (by omega) | exact sh_bar (by omega) | exact sh_term (by omega) | exact sh_sheet (by omega) | exact sh_items (by omega) | exact sh_sums (by omega)) rfl ?_
      refine wp_iald (pc := 75) dX8_readNumber_75 (by first | rfl | assumption | exact sh_house (by omega) | exact sh_wish (by omega) | exact sh_wor (by omega) | exact sh_bar (by omega) | exact sh_term (by omega) | exact sh_sheet (by omega) | exact sh_items (by omega) | exact sh_sums (by omega)) (by rw [hP.2.2]; exact vp_in_nI (by omega) (by decide)) ?_
      refine wp_cS (pc := 76) dX8_readNumber_76 lk_8_67 rfl rfl rfl ?_
      rw [hP.2.2, cp, hbp, ← ecI]
      refine c_isDigit (by omega) (fun q => absurd q c) (fun _ => aK_i ?_)
      refine wp_if_eq (pc := 79) (tgt := 120) dX8_readNumber_79 rfl (fun _ => ?_) (fun q => absurd rfl q)
      exact k _ hP _ g0 g1 g2 g3 g4 g5
/-- behind a sign -/
theorem l_rn29 {q l : Nat} {V : Int32} (hV : V = (if ls = 1 then -(nI (dF b n (n - nx b n q) (nx b n q) 0).2) else nI (dF b n (n - nx b n q) (nx b n q) 0).2)) (hl : l < 64) (hls : ls = 0 ∨ ls = 1) (hT : TG μ.1 2 1 3 b n) (hq : q ≤ n) (kf : ¬ (dg (ch b n (nx b n q)) ∧ (dF b n (n - nx b n q) (nx b n q) 0).2 ≤ 99) → ∀ x μ', DR μ μ' x → Q (some (.int (-20 - nI (nx b n q)))) μ') (kt : (dg (ch b n (nx b n q)) ∧ (dF b n (n - nx b n q) (nx b n q) 0).2 ≤ 99) → ∀ μ', DR μ μ' (dF b n (n - nx b n q) (nx b n q) 0).1 → μ'.1 4 0 = μ.1 4 0 + 1 → (∀ s, s < 64 → μ'.1 5 s = (if l &&& s = l then μ.1 5 s + V else μ.1 5 s) ∧ μ'.1 6 s = μ.1 6 s) → Q (some (.int 0)) μ') (μ' : Mm) (hP : PL 2 2 μ μ' q) (L : aL) (g0 : aL_get L 0 = some (.ref 2)) (g1 : aL_get L 1 = some (.ref 4)) (g2 : aL_get L 2 = some (.int (nI l))) (g3 : aL_get L 3 = some (.int ls)) : WP X mX8_readNumber 29 L [] μ' Q := by
  have hc := ch_lt (p := nx b n q) hT.2.1
  have hn := hT.1
  have hx := nx_le (b := b) hq
  by_cases c : dg (ch b n (nx b n q))
  · obtain ⟨d1, d2, d3⟩ := dF_p (b := b) (n := n) (n - nx b n q) (nx b n q) 0 hx (by decide)
    have hk : ∀ μ3, PL 2 2 μ μ3 (dF b n (n - nx b n q) (nx b n q) 0).1 → ∀ L : aL, aL_get L 0 = some (.ref 2) → aL_get L 1 = some (.ref 4) → aL_get L 2 = some (.int (nI l)) → aL_get L 3 = some (.int ls) → aL_get L 4 = some (.int (nI (nx b n q))) → aL_get L 5 = some (.int (nI (dF b n (n - nx b n q) (nx b n q) 0).2)) → WP X mX8_readNumber 120 L [] μ3 Q := by
      intro μ3 h3 L g0 g1 g2 g3 g4 g5
      by_cases c9 : (dF b n (n - nx b n q) (nx b n q) 0).2 ≤ 99
      · have fin : ∀ μ5 v, v = (if ls = 1 then -(nI (dF b n (n - nx b n q) (nx b n q) 0).2) else nI (dF b n (n - nx b n q) (nx b n q) 0).2) → offW 4 μ3 μ5 → μ5.1 4 0 = μ3.1 4 0 + 1 → (∀ s, s < 64 → μ5.1 5 s = (if l &&& s = l then μ3.1 5 s + v else μ3.1 5 s) ∧ μ5.1 6 s = μ3.1 6 s) → Q (some (.int 0)) μ5 := by
          intro μ5 v hv o5 z5 s5
          refine kt ⟨c, c9⟩ _ (offW.dr h3.dr o5) (by rw [z5, h3.1 4 0 (by omega)]) (fun s hs => ?_)
          rw [hV, ← hv, ← h3.1 5 s (by omega), ← h3.1 6 s (by omega)]
          exact s5 s hs
        rcases hls with rfl | rfl
        · refine wp_iload (pc := 120) dX8_readNumber_120 (by first | rfl | assumption | (repeat first | assumption | rfl | refine aG_n ?_ rfl rfl)) ?_
          refine wp_bipush (pc := 122) (v := 99) dX8_readNumber_122 (by decide) ?_
          refine wp_icmp_le (pc := 124) (tgt := 133) dX8_readNumber_124 rfl (fun _ => ?_) (fun q => absurd (nI_le (b := 99) (by omega) (by omega)) q)
          refine wp_aload_n (pc := 133) dX8_readNumber_133 (by first | rfl | assumption | (repeat first | assumption | rfl | refine aG_n ?_ rfl rfl)) ?_
          refine wp_iload_n (pc := 134) dX8_readNumber_134 (by first | rfl | assumption | (repeat first | assumption | rfl | refine aG_n ?_ rfl rfl)) ?_
          refine wp_iload_n (pc := 135) dX8_readNumber_135 (by first | rfl | assumption | (repeat first | assumption | rfl | refine aG_n ?_ rfl rfl)) ?_
          refine wp_if_eq (pc := 136) (tgt := 145) dX8_readNumber_136 rfl (fun _ => ?_) (fun q => absurd rfl q)
          refine wp_iload (pc := 145) dX8_readNumber_145 (by first | rfl | assumption | (repeat first | assumption | rfl | refine aG_n ?_ rfl rfl)) ?_
          refine wp_cV (pc := 147) dX8_readNumber_147 lk_8_77 rfl (by decide) rfl (by first | rfl | assumption | exact sh_house (by omega) | exact sh_wish (by omega) | exact sh_wor (by omega) | exact sh_bar (by omega) | exact sh_term (by omega) | exact sh_sheet (by omega) | exact sh_items (by omega) | exact sh_sums (by omega)) rfl rfl ?_
          refine c_X10_addNumber (W := 4) hl Wsh_d (fun μ5 o5 z5 s5 => aK_v ?_)
          refine wp_iconst (pc := 150) (v := 0) dX8_readNumber_150 (by decide) ?_
          refine wp_ireturn (pc := 151) dX8_readNumber_151 rfl (by first | rfl | decide | assumption) ?_
          exact fin _ _ rfl o5 z5 s5
        · refine wp_iload (pc := 120) dX8_readNumber_120 (by first | rfl | assumption | (repeat first | assumption | rfl | refine aG_n ?_ rfl rfl)) ?_
          refine wp_bipush (pc := 122) (v := 99) dX8_readNumber_122 (by decide) ?_
          refine wp_icmp_le (pc := 124) (tgt := 133) dX8_readNumber_124 rfl (fun _ => ?_) (fun q => absurd (nI_le (b := 99) (by omega) (by omega)) q)
          refine wp_aload_n (pc := 133) dX8_readNumber_133 (by first | rfl | assumption | (repeat first | assumption | rfl | refine aG_n ?_ rfl rfl)) ?_
          refine wp_iload_n (pc := 134) dX8_readNumber_134 (by first | rfl | assumption | (repeat first | assumption | rfl | refine aG_n ?_ rfl rfl)) ?_
          refine wp_iload_n (pc := 135) dX8_readNumber_135 (by first | rfl | assumption | (repeat first | assumption | rfl | refine aG_n ?_ rfl rfl)) ?_
          refine wp_if_eq (pc := 136) (tgt := 145) dX8_readNumber_136 rfl (fun q => absurd q (by decide)) (fun _ => ?_)
          refine wp_iload (pc := 139) dX8_readNumber_139 (by first | rfl | assumption | (repeat first | assumption | rfl | refine aG_n ?_ rfl rfl)) ?_
          refine wp_ineg (pc := 141) dX8_readNumber_141 ?_
          refine wp_goto (pc := 142) (tgt := 147) dX8_readNumber_142 rfl ?_
          refine wp_cV (pc := 147) dX8_readNumber_147 lk_8_77 rfl (by decide) rfl (by first | rfl | assumption | exact sh_house (by omega) | exact sh_wish (by omega) | exact sh_wor (by omega) | exact sh_bar (by omega) | exact sh_term (by omega) | exact sh_sheet (by omega) | exact sh_items (by omega) | exact sh_sums (by omega)) rfl rfl ?_
          refine c_X10_addNumber (W := 4) hl Wsh_d (fun μ5 o5 z5 s5 => aK_v ?_)
          refine wp_iconst (pc := 150) (v := 0) dX8_readNumber_150 (by decide) ?_
          refine wp_ireturn (pc := 151) dX8_readNumber_151 rfl (by first | rfl | decide | assumption) ?_
          exact fin _ _ rfl o5 z5 s5
      · refine wp_iload (pc := 120) dX8_readNumber_120 (by first | rfl | assumption | (repeat first | assumption | rfl | refine aG_n ?_ rfl rfl)) ?_
        refine wp_bipush (pc := 122) (v := 99) dX8_readNumber_122 (by decide) ?_
        refine wp_icmp_le (pc := 124) (tgt := 133) dX8_readNumber_124 rfl (fun q => absurd q (nI_ge (a := 99) (by omega) (by omega))) (fun _ => ?_)
        refine wp_iload (pc := 127) dX8_readNumber_127 (by first | rfl | assumption | (repeat first | assumption | rfl | refine aG_n ?_ rfl rfl)) ?_
        refine wp_cS (pc := 129) dX8_readNumber_129 lk_8_49 rfl rfl rfl ?_
        refine wp_bipush (pc := 0) (v := -20) dX8_faultAt_0 (by decide) ?_
        refine wp_iload_n (pc := 2) dX8_faultAt_2 (by first | rfl | assumption | (repeat first | assumption | rfl | refine aG_n ?_ rfl rfl)) ?_
        refine wp_isub (pc := 3) dX8_faultAt_3 ?_
        refine wp_iretK (pc := 4) dX8_faultAt_4 rfl (by first | rfl | decide | assumption) ?_
        refine wp_ireturn (pc := 132) dX8_readNumber_132 rfl (by first | rfl | decide | assumption) ?_
        exact kf (fun z => c9 z.2) _ _ h3.dr
    refine wp_aload_n (pc := 29) dX8_readNumber_29 (by first | rfl | assumption | (repeat first | assumption | rfl | refine aG_n ?_ rfl rfl)) ?_
    refine wp_cV (pc := 30) dX8_readNumber_30 lk_8_42 rfl (by decide) rfl (by first | rfl | assumption | exact sh_house (by omega) | exact sh_wish (by omega) | exact sh_wor (by omega) | exact sh_bar (by omega) | exact sh_term (by omega) | exact sh_sheet (by omega) | exact sh_items (by omega) | exact sh_sums (by omega)) rfl rfl ?_
    refine c_X8_next (TC hT hP) hq hP.2.2 (fun μ2 h2 => aK_i ?_)
    refine wp_cS (pc := 33) dX8_readNumber_33 lk_8_67 rfl rfl rfl (c_isDigit hc (fun _ => aK_i ?_) (fun q => absurd c q))
    refine wp_if_ne (pc := 36) (tgt := 47) dX8_readNumber_36 rfl (fun _ => ?_) (fun q => absurd q (by decide))
    refine wp_aload_n (pc := 47) dX8_readNumber_47 (by first | rfl | assumption | (repeat first | assumption | rfl | refine aG_n ?_ rfl rfl)) ?_
    refine wp_getI (pc := 48) dX8_readNumber_48 fl_8_32 (by first | rfl | assumption | exact sh_house (by omega) | exact sh_wish (by omega) | exact sh_wor (by omega) | exact sh_bar (by omega) | exact sh_term (by omega) | exact sh_sheet (by omega) | exact sh_items (by omega) | exact sh_sums (by omega)) rfl ?_
    refine wp_istore (pc := 51) dX8_readNumber_51 (by decide) ?_
    refine wp_iconst (pc := 53) (v := 0) dX8_readNumber_53 (by decide) ?_
    refine wp_istore (pc := 54) dX8_readNumber_54 (by decide) ?_
    skip
    rw [h2.2.2]
    exact l_dig hT hk _ _ 0 rfl hx (by decide) rfl _ (hP.trans h2) _ (by first | rfl | assumption | (repeat first | assumption | rfl | refine aG_n ?_ rfl rfl)) (by first | rfl | assumption | (repeat first | assumption | rfl | refine aG_n ?_ rfl rfl)) (by first | rfl | assumption | (repeat first | assumption | rfl | refine aG_n ?_ rfl rfl)) (by first | rfl | assumption | (repeat first | assumption | rfl | refine aG_n ?_ rfl rfl)) (by first | rfl | assumption | (repeat first | assumption | rfl | refine aG_n ?_ rfl rfl)) (by first | rfl | assumption | (repeat first | assumption | rfl | refine aG_n ?_ rfl rfl))
  · refine wp_aload_n (pc := 29) dX8_readNumber_29 (by first | rfl | assumption | (repeat first | assumption | rfl | refine aG_n ?_ rfl rfl)) ?_
    refine wp_cV (pc := 30) dX8_readNumber_30 lk_8_42 rfl (by decide) rfl (by first | rfl | assumption | exact sh_house (by omega) | exact sh_wish (by omega) | exact sh_wor (by omega) | exact sh_bar (by omega) | exact sh_term (by omega) | exact sh_sheet (by omega) | exact sh_items (by omega) | exact sh_sums (by omega)) rfl rfl ?_
    refine c_X8_next (TC hT hP) hq hP.2.2 (fun μ2 h2 => aK_i ?_)
    refine wp_cS (pc := 33) dX8_readNumber_33 lk_8_67 rfl rfl rfl (c_isDigit hc (fun q => absurd q c) (fun _ => aK_i ?_))
    refine wp_if_ne (pc := 36) (tgt := 47) dX8_readNumber_36 rfl (fun q => absurd q (by decide)) (fun _ => ?_)
    refine wp_aload_n (pc := 39) dX8_readNumber_39 (by first | rfl | assumption | (repeat first | assumption | rfl | refine aG_n ?_ rfl rfl)) ?_
    refine wp_getI (pc := 40) dX8_readNumber_40 fl_8_32 (by first | rfl | assumption | exact sh_house (by omega) | exact sh_wish (by omega) | exact sh_wor (by omega) | exact sh_bar (by omega) | exact sh_term (by omega) | exact sh_sheet (by omega) | exact sh_items (by omega) | exact sh_sums (by omega)) rfl ?_
    refine wp_cS (pc := 43) dX8_readNumber_43 lk_8_49 rfl rfl rfl ?_
    refine wp_bipush (pc := 0) (v := -20) dX8_faultAt_0 (by decide) ?_
    refine wp_iload_n (pc := 2) dX8_faultAt_2 (by first | rfl | assumption | (repeat first | assumption | rfl | refine aG_n ?_ rfl rfl)) ?_
    refine wp_isub (pc := 3) dX8_faultAt_3 ?_
    refine wp_iretK (pc := 4) dX8_faultAt_4 rfl (by first | rfl | decide | assumption) ?_
    refine wp_ireturn (pc := 46) dX8_readNumber_46 rfl (by first | rfl | decide | assumption) ?_
    rw [h2.2.2]
    exact kf (fun z => c z.1) _ _ (hP.trans h2).dr
theorem c_X8_readNumber {p l : Nat} (hl : l < 64) (hT : TG μ.1 2 1 3 b n) (hp : p ≤ n) (hP : μ.1 2 2 = nI p) (kf : ¬ nOk b n p → ∀ x μ', DR μ μ' x → Q (some (.int (-20 - nI (nQ b n p)))) μ') (kt : nOk b n p → ∀ μ', DR μ μ' (nD b n p).1 → μ'.1 4 0 = μ.1 4 0 + 1 → (∀ s, s < 64 → μ'.1 5 s = (if l &&& s = l then μ.1 5 s + nV b n p else μ.1 5 s) ∧ μ'.1 6 s = μ.1 6 s) → Q (some (.int 0)) μ') : WP X mX8_readNumber 0 (lv_args 0 [.ref 2, .ref 4, .int (nI l)]) [] μ Q := by
  have hc := ch_lt (p := nx b n p) hT.2.1
  have hn := hT.1
  unfold nOk nD nQ at kf
  unfold nOk nV at kt
  unfold nD at kt
  unfold nQ at kt
  by_cases c : nL b n p = true
  · have hx := nL_n c
    simp only [if_pos c] at kf kt
    refine wp_aload_n (pc := 0) dX8_readNumber_0 (by first | rfl | assumption | (repeat first | assumption | rfl | refine aG_n ?_ rfl rfl)) ?_
    refine wp_cV (pc := 1) dX8_readNumber_1 lk_8_42 rfl (by decide) rfl (by first | rfl | assumption | exact sh_house (by omega) | exact sh_wish (by omega) | exact sh_wor (by omega) | exact sh_bar (by omega) | exact sh_term (by omega) | exact sh_sheet (by omega) | exact sh_items (by omega) | exact sh_sums (by omega)) rfl rfl ?_
    refine c_X8_next hT hp hP (fun μ2 h2 => aK_i ?_)
    refine wp_bipush (pc := 4) (v := 45) dX8_readNumber_4 (by decide) ?_
    refine wp_icmp_ne (pc := 6) (tgt := 13) dX8_readNumber_6 rfl (fun q => absurd ((chI_45 hc).mpr (of_decide_eq_true c)) q) (fun _ => ?_)
    refine wp_iconst (pc := 9) (v := 1) dX8_readNumber_9 (by decide) ?_
    refine wp_goto (pc := 10) (tgt := 14) dX8_readNumber_10 rfl ?_
    refine wp_istore_n (pc := 14) dX8_readNumber_14 (by decide) ?_
    refine wp_iload_n (pc := 15) dX8_readNumber_15 (by first | rfl | assumption | (repeat first | assumption | rfl | refine aG_n ?_ rfl rfl)) ?_
    refine wp_if_eq (pc := 16) (tgt := 29) dX8_readNumber_16 rfl (fun q => absurd q (by decide)) (fun _ => ?_)
    refine wp_aload_n (pc := 19) dX8_readNumber_19 (by first | rfl | assumption | (repeat first | assumption | rfl | refine aG_n ?_ rfl rfl)) ?_
    refine wp_dupr (pc := 20) dX8_readNumber_20 ?_
    refine wp_getI (pc := 21) dX8_readNumber_21 fl_8_32 (by first | rfl | assumption | exact sh_house (by omega) | exact sh_wish (by omega) | exact sh_wor (by omega) | exact sh_bar (by omega) | exact sh_term (by omega) | exact sh_sheet (by omega) | exact sh_items (by omega) | exact sh_sums (by omega)) rfl ?_
    refine wp_iconst (pc := 24) (v := 1) dX8_readNumber_24 (by decide) ?_
    refine wp_iadd (pc := 25) dX8_readNumber_25 ?_
    refine wp_putI (pc := 26) dX8_readNumber_26 fl_8_32 (by first | rfl | assumption | exact sh_house (by omega) | exact sh_wish (by omega) | exact sh_wor (by omega) | exact sh_bar (by omega) | exact sh_term (by omega) | exact sh_sheet (by omega) | exact sh_items (by omega) | exact sh_sums (by omega)) rfl rfl rfl ?_
    skip
    exact l_rn29 (if_pos rfl).symm hl (Or.inr rfl) hT (by omega) kf kt _ (h2.up (by rw [h2.2.2, nI_1])) _ (by first | rfl | assumption | (repeat first | assumption | rfl | refine aG_n ?_ rfl rfl)) (by first | rfl | assumption | (repeat first | assumption | rfl | refine aG_n ?_ rfl rfl)) (by first | rfl | assumption | (repeat first | assumption | rfl | refine aG_n ?_ rfl rfl)) (by first | rfl | assumption | (repeat first | assumption | rfl | refine aG_n ?_ rfl rfl))
  · simp only [if_neg c] at kf kt
    refine wp_aload_n (pc := 0) dX8_readNumber_0 (by first | rfl | assumption | (repeat first | assumption | rfl | refine aG_n ?_ rfl rfl)) ?_
    refine wp_cV (pc := 1) dX8_readNumber_1 lk_8_42 rfl (by decide) rfl (by first | rfl | assumption | exact sh_house (by omega) | exact sh_wish (by omega) | exact sh_wor (by omega) | exact sh_bar (by omega) | exact sh_term (by omega) | exact sh_sheet (by omega) | exact sh_items (by omega) | exact sh_sums (by omega)) rfl rfl ?_
    refine c_X8_next hT hp hP (fun μ2 h2 => aK_i ?_)
    refine wp_bipush (pc := 4) (v := 45) dX8_readNumber_4 (by decide) ?_
    refine wp_icmp_ne (pc := 6) (tgt := 13) dX8_readNumber_6 rfl (fun _ => ?_) (fun q => absurd q (fun z => c (decide_eq_true ((chI_45 hc).mp z))))
    refine wp_iconst (pc := 13) (v := 0) dX8_readNumber_13 (by decide) ?_
    refine wp_istore_n (pc := 14) dX8_readNumber_14 (by decide) ?_
    refine wp_iload_n (pc := 15) dX8_readNumber_15 (by first | rfl | assumption | (repeat first | assumption | rfl | refine aG_n ?_ rfl rfl)) ?_
    refine wp_if_eq (pc := 16) (tgt := 29) dX8_readNumber_16 rfl (fun _ => ?_) (fun q => absurd q (by decide))
    skip
    exact l_rn29 (if_neg (by decide)).symm hl (Or.inl rfl) hT (nx_le hp) kf kt _ h2 _ (by first | rfl | assumption | (repeat first | assumption | rfl | refine aG_n ?_ rfl rfl)) (by first | rfl | assumption | (repeat first | assumption | rfl | refine aG_n ?_ rfl rfl)) (by first | rfl | assumption | (repeat first | assumption | rfl | refine aG_n ?_ rfl rfl)) (by first | rfl | assumption | (repeat first | assumption | rfl | refine aG_n ?_ rfl rfl))
/-- behind a '!' -/
theorem l_rc29 {q : Nat} {br : Bool} (hT : TG μ.1 2 1 3 b n) (hq : q ≤ n) (kf : ¬ (¬ (lF b n 6 q 0).2 = 0 ∧ (br = true ∨ nOk b n (lF b n 6 q 0).1)) → ∀ x μ', DR μ μ' x → Q (some (.int (-20 - nI (if (lF b n 6 q 0).2 = 0 then (lF b n 6 q 0).1 else nQ b n (lF b n 6 q 0).1)))) μ') (kt : (¬ (lF b n 6 q 0).2 = 0 ∧ (br = true ∨ nOk b n (lF b n 6 q 0).1)) → ∀ μ', DR μ μ' (if br = true then (lF b n 6 q 0).1 else (nD b n (lF b n 6 q 0).1).1) → μ'.1 4 0 = μ.1 4 0 + 1 → (∀ s, s < 64 → μ'.1 5 s = μ.1 5 s + (if (lF b n 6 q 0).2 &&& s = (lF b n 6 q 0).2 then (if br = true then 0 else nV b n (lF b n 6 q 0).1) else 0) ∧ μ'.1 6 s = (if br = true ∧ (lF b n 6 q 0).2 &&& s = (lF b n 6 q 0).2 then 1 else μ.1 6 s)) → Q (some (.int 0)) μ') (μ' : Mm) (hP : PL 2 2 μ μ' q) (L : aL) (g0 : aL_get L 0 = some (.ref 2)) (g1 : aL_get L 1 = some (.ref 4)) (g2 : aL_get L 2 = some (.int (b2i br))) : WP X mX8_readClause 29 L [] μ' Q := by
  have hn := hT.1
  obtain ⟨l1, l2, -⟩ := lF_p (b := b) hT.2.1 6 q 0 hq (by decide)
  obtain ⟨r, hr⟩ : ∃ r, lF b n 6 q 0 = r := ⟨_, rfl⟩
  rw [hr] at kf kt l1 l2
  by_cases z : r.2 = 0
  · rw [if_pos z] at kf
    refine wp_aload_n (pc := 29) dX8_readClause_29 (by first | rfl | assumption | (repeat first | assumption | rfl | refine aG_n ?_ rfl rfl)) ?_
    refine wp_cV (pc := 30) dX8_readClause_30 lk_8_53 rfl (by decide) rfl (by first | rfl | assumption | exact sh_house (by omega) | exact sh_wish (by omega) | exact sh_wor (by omega) | exact sh_bar (by omega) | exact sh_term (by omega) | exact sh_sheet (by omega) | exact sh_items (by omega) | exact sh_sums (by omega)) rfl rfl ?_
    refine c_X8_readLetters (TC hT hP) hq hP.2.2 (fun μ2 h2 => ?_)
    rw [hr] at h2 ⊢
    refine aK_i ?_
    refine wp_istore_n (pc := 33) dX8_readClause_33 (by decide) ?_
    refine wp_iload_n (pc := 34) dX8_readClause_34 (by first | rfl | assumption | (repeat first | assumption | rfl | refine aG_n ?_ rfl rfl)) ?_
    refine wp_if_ne (pc := 35) (tgt := 46) dX8_readClause_35 rfl (fun q => absurd (by rw [z]; rfl) q) (fun _ => ?_)
    refine wp_aload_n (pc := 38) dX8_readClause_38 (by first | rfl | assumption | (repeat first | assumption | rfl | refine aG_n ?_ rfl rfl)) ?_
    refine wp_getI (pc := 39) dX8_readClause_39 fl_8_32 (by first | rfl | assumption | exact sh_house (by omega) | exact sh_wish (by omega) | exact sh_wor (by omega) | exact sh_bar (by omega) | exact sh_term (by omega) | exact sh_sheet (by omega) | exact sh_items (by omega) | exact sh_sums (by omega)) rfl ?_
    refine wp_cS (pc := 42) dX8_readClause_42 lk_8_49 rfl rfl rfl ?_
    refine wp_bipush (pc := 0) (v := -20) dX8_faultAt_0 (by decide) ?_
    refine wp_iload_n (pc := 2) dX8_faultAt_2 (by first | rfl | assumption | (repeat first | assumption | rfl | refine aG_n ?_ rfl rfl)) ?_
    refine wp_isub (pc := 3) dX8_faultAt_3 ?_
    refine wp_iretK (pc := 4) dX8_faultAt_4 rfl (by first | rfl | decide | assumption) ?_
    refine wp_ireturn (pc := 45) dX8_readClause_45 rfl (by first | rfl | decide | assumption) ?_
    rw [h2.2.2]
    exact kf (fun y => y.1 z) _ _ (hP.trans h2).dr
  · rw [if_neg z] at kf
    cases br with
    | true =>
      replace g2 : aL_get L 2 = some (.int 1) := g2
      refine wp_aload_n (pc := 29) dX8_readClause_29 (by first | rfl | assumption | (repeat first | assumption | rfl | refine aG_n ?_ rfl rfl)) ?_
      refine wp_cV (pc := 30) dX8_readClause_30 lk_8_53 rfl (by decide) rfl (by first | rfl | assumption | exact sh_house (by omega) | exact sh_wish (by omega) | exact sh_wor (by omega) | exact sh_bar (by omega) | exact sh_term (by omega) | exact sh_sheet (by omega) | exact sh_items (by omega) | exact sh_sums (by omega)) rfl rfl ?_
      refine c_X8_readLetters (TC hT hP) hq hP.2.2 (fun μ2 h2 => ?_)
      rw [hr] at h2 ⊢
      refine aK_i ?_
      refine wp_istore_n (pc := 33) dX8_readClause_33 (by decide) ?_
      refine wp_iload_n (pc := 34) dX8_readClause_34 (by first | rfl | assumption | (repeat first | assumption | rfl | refine aG_n ?_ rfl rfl)) ?_
      refine wp_if_ne (pc := 35) (tgt := 46) dX8_readClause_35 rfl (fun _ => ?_) (fun q => absurd q (nI_ne0 (by omega) (by omega)))
      refine wp_iload_n (pc := 46) dX8_readClause_46 (by first | rfl | assumption | (repeat first | assumption | rfl | refine aG_n ?_ rfl rfl)) ?_
      refine wp_if_eq (pc := 47) (tgt := 57) dX8_readClause_47 rfl (fun q => absurd q (by decide)) (fun _ => ?_)
      refine wp_aload_n (pc := 50) dX8_readClause_50 (by first | rfl | assumption | (repeat first | assumption | rfl | refine aG_n ?_ rfl rfl)) ?_
      refine wp_iload_n (pc := 51) dX8_readClause_51 (by first | rfl | assumption | (repeat first | assumption | rfl | refine aG_n ?_ rfl rfl)) ?_
      refine wp_cV (pc := 52) dX8_readClause_52 lk_8_56 rfl (by decide) rfl (by first | rfl | assumption | exact sh_house (by omega) | exact sh_wish (by omega) | exact sh_wor (by omega) | exact sh_bar (by omega) | exact sh_term (by omega) | exact sh_sheet (by omega) | exact sh_items (by omega) | exact sh_sums (by omega)) rfl rfl ?_
      refine c_X10_addBar (W := 4) l2 Wsh_d (fun μ5 o5 z5 s5 => aK_v ?_)
      refine wp_iconst (pc := 55) (v := 0) dX8_readClause_55 (by decide) ?_
      refine wp_ireturn (pc := 56) dX8_readClause_56 rfl (by first | rfl | decide | assumption) ?_
      skip
      have hD := hP.trans h2
      refine kt ⟨z, Or.inl rfl⟩ _ (by rw [if_pos rfl]; exact offW.dr hD.dr o5) (by rw [z5, hD.1 4 0 (by omega)]) (fun s hs => ?_)
      obtain ⟨x1, x2⟩ := s5 s hs
      refine ⟨?_, ?_⟩
      · rw [if_pos rfl, ite_self, Int32.add_zero, ← hD.1 5 s (by omega)]; exact x2
      · rw [← hD.1 6 s (by omega)]
        by_cases y : r.2 &&& s = r.2
        · rw [if_pos ⟨rfl, y⟩]; rw [if_pos y] at x1; exact x1
        · rw [if_neg (fun w => y w.2)]; rw [if_neg y] at x1; exact x1
    | false =>
      replace g2 : aL_get L 2 = some (.int 0) := g2
      have hb' : ¬ (false = true) := by decide
      refine wp_aload_n (pc := 29) dX8_readClause_29 (by first | rfl | assumption | (repeat first | assumption | rfl | refine aG_n ?_ rfl rfl)) ?_
      refine wp_cV (pc := 30) dX8_readClause_30 lk_8_53 rfl (by decide) rfl (by first | rfl | assumption | exact sh_house (by omega) | exact sh_wish (by omega) | exact sh_wor (by omega) | exact sh_bar (by omega) | exact sh_term (by omega) | exact sh_sheet (by omega) | exact sh_items (by omega) | exact sh_sums (by omega)) rfl rfl ?_
      refine c_X8_readLetters (TC hT hP) hq hP.2.2 (fun μ2 h2 => ?_)
      rw [hr] at h2 ⊢
      refine aK_i ?_
      refine wp_istore_n (pc := 33) dX8_readClause_33 (by decide) ?_
      refine wp_iload_n (pc := 34) dX8_readClause_34 (by first | rfl | assumption | (repeat first | assumption | rfl | refine aG_n ?_ rfl rfl)) ?_
      refine wp_if_ne (pc := 35) (tgt := 46) dX8_readClause_35 rfl (fun _ => ?_) (fun q => absurd q (nI_ne0 (by omega) (by omega)))
      refine wp_iload_n (pc := 46) dX8_readClause_46 (by first | rfl | assumption | (repeat first | assumption | rfl | refine aG_n ?_ rfl rfl)) ?_
      refine wp_if_eq (pc := 47) (tgt := 57) dX8_readClause_47 rfl (fun _ => ?_) (fun q => absurd rfl q)
      refine wp_aload_n (pc := 57) dX8_readClause_57 (by first | rfl | assumption | (repeat first | assumption | rfl | refine aG_n ?_ rfl rfl)) ?_
      refine wp_aload_n (pc := 58) dX8_readClause_58 (by first | rfl | assumption | (repeat first | assumption | rfl | refine aG_n ?_ rfl rfl)) ?_
      refine wp_iload_n (pc := 59) dX8_readClause_59 (by first | rfl | assumption | (repeat first | assumption | rfl | refine aG_n ?_ rfl rfl)) ?_
      refine wp_cV (pc := 60) dX8_readClause_60 lk_8_60 rfl (by decide) rfl (by first | rfl | assumption | exact sh_house (by omega) | exact sh_wish (by omega) | exact sh_wor (by omega) | exact sh_bar (by omega) | exact sh_term (by omega) | exact sh_sheet (by omega) | exact sh_items (by omega) | exact sh_sums (by omega)) rfl rfl ?_
      refine c_X8_readNumber l2 (TC hT (hP.trans h2)) l1 h2.2.2 (fun nk x μ5 d5 => aK_i ?_) (fun ok μ5 d5 z5 s5 => aK_i ?_)
      focus (refine wp_ireturn (pc := 63) dX8_readClause_63 rfl (by first | rfl | decide | assumption) ?_; exact kf (fun y => y.2.elim (fun w => by cases w) nk) _ _ ((hP.trans h2).dr.trans d5))
      refine wp_ireturn (pc := 63) dX8_readClause_63 rfl (by first | rfl | decide | assumption) ?_
      skip
      have hD := hP.trans h2
      refine kt ⟨z, Or.inr ok⟩ _ (by rw [if_neg hb']; exact hD.dr.trans d5) (by rw [z5, hD.1 4 0 (by omega)]) (fun s hs => ?_)
      obtain ⟨x1, x2⟩ := s5 s hs
      rw [if_neg hb', if_neg (show ¬ (false = true ∧ r.2 &&& s = r.2) from fun w => hb' w.1), ← hD.1 5 s (by omega), ← hD.1 6 s (by omega)]
      refine ⟨?_, x2⟩
      rw [x1]
      by_cases y : r.2 &&& s = r.2
      · rw [if_pos y, if_pos y]
      · rw [if_neg y, if_neg y, Int32.add_zero]
theorem c_X8_readClause {p : Nat} (hT : TG μ.1 2 1 3 b n) (hp : p ≤ n) (hP : μ.1 2 2 = nI p) (kf : ¬ clOk b n p → ∀ x μ', DR μ μ' x → Q (some (.int (-20 - nI (clF b n p)))) μ') (kt : clOk b n p → ∀ μ', DR μ μ' (clAt b n p) → μ'.1 4 0 = μ.1 4 0 + 1 → (∀ s, s < 64 → μ'.1 5 s = μ.1 5 s + (if (cL b n p).2 &&& s = (cL b n p).2 then clV b n p else 0) ∧ μ'.1 6 s = (if cBr b n p = true ∧ (cL b n p).2 &&& s = (cL b n p).2 then 1 else μ.1 6 s)) → Q (some (.int 0)) μ') : WP X mX8_readClause 0 (lv_args 0 [.ref 2, .ref 4]) [] μ Q := by
  have hc := ch_lt (p := nx b n p) hT.2.1
  have hn := hT.1
  unfold clOk clF at kf
  unfold clOk clAt clV at kt
  unfold cL at kf kt
  by_cases c : cBr b n p = true
  · have hx := cB_n c
    rw [if_pos c] at kf kt
    refine wp_aload_n (pc := 0) dX8_readClause_0 (by first | rfl | assumption | (repeat first | assumption | rfl | refine aG_n ?_ rfl rfl)) ?_
    refine wp_cV (pc := 1) dX8_readClause_1 lk_8_42 rfl (by decide) rfl (by first | rfl | assumption | exact sh_house (by omega) | exact sh_wish (by omega) | exact sh_wor (by omega) | exact sh_bar (by omega) | exact sh_term (by omega) | exact sh_sheet (by omega) | exact sh_items (by omega) | exact sh_sums (by omega)) rfl rfl ?_
    refine c_X8_next hT hp hP (fun μ2 h2 => aK_i ?_)
    refine wp_bipush (pc := 4) (v := 33) dX8_readClause_4 (by decide) ?_
    refine wp_icmp_ne (pc := 6) (tgt := 13) dX8_readClause_6 rfl (fun q => absurd ((chI_33 hc).mpr (of_decide_eq_true c)) q) (fun _ => ?_)
    refine wp_iconst (pc := 9) (v := 1) dX8_readClause_9 (by decide) ?_
    refine wp_goto (pc := 10) (tgt := 14) dX8_readClause_10 rfl ?_
    refine wp_istore_n (pc := 14) dX8_readClause_14 (by decide) ?_
    refine wp_iload_n (pc := 15) dX8_readClause_15 (by first | rfl | assumption | (repeat first | assumption | rfl | refine aG_n ?_ rfl rfl)) ?_
    refine wp_if_eq (pc := 16) (tgt := 29) dX8_readClause_16 rfl (fun q => absurd q (by decide)) (fun _ => ?_)
    refine wp_aload_n (pc := 19) dX8_readClause_19 (by first | rfl | assumption | (repeat first | assumption | rfl | refine aG_n ?_ rfl rfl)) ?_
    refine wp_dupr (pc := 20) dX8_readClause_20 ?_
    refine wp_getI (pc := 21) dX8_readClause_21 fl_8_32 (by first | rfl | assumption | exact sh_house (by omega) | exact sh_wish (by omega) | exact sh_wor (by omega) | exact sh_bar (by omega) | exact sh_term (by omega) | exact sh_sheet (by omega) | exact sh_items (by omega) | exact sh_sums (by omega)) rfl ?_
    refine wp_iconst (pc := 24) (v := 1) dX8_readClause_24 (by decide) ?_
    refine wp_iadd (pc := 25) dX8_readClause_25 ?_
    refine wp_putI (pc := 26) dX8_readClause_26 fl_8_32 (by first | rfl | assumption | exact sh_house (by omega) | exact sh_wish (by omega) | exact sh_wor (by omega) | exact sh_bar (by omega) | exact sh_term (by omega) | exact sh_sheet (by omega) | exact sh_items (by omega) | exact sh_sums (by omega)) rfl rfl rfl ?_
    skip
    exact l_rc29 (br := cBr b n p) hT (by omega) kf kt _ (h2.up (by rw [h2.2.2, nI_1])) _ (by first | rfl | assumption | (repeat first | assumption | rfl | refine aG_n ?_ rfl rfl)) (by first | rfl | assumption | (repeat first | assumption | rfl | refine aG_n ?_ rfl rfl)) (by rw [c]; first | rfl | assumption | (repeat first | assumption | rfl | refine aG_n ?_ rfl rfl))
  · rw [if_neg c] at kf kt
    have c' : cBr b n p = false := by simpa using c
    refine wp_aload_n (pc := 0) dX8_readClause_0 (by first | rfl | assumption | (repeat first | assumption | rfl | refine aG_n ?_ rfl rfl)) ?_
    refine wp_cV (pc := 1) dX8_readClause_1 lk_8_42 rfl (by decide) rfl (by first | rfl | assumption | exact sh_house (by omega) | exact sh_wish (by omega) | exact sh_wor (by omega) | exact sh_bar (by omega) | exact sh_term (by omega) | exact sh_sheet (by omega) | exact sh_items (by omega) | exact sh_sums (by omega)) rfl rfl ?_
    refine c_X8_next hT hp hP (fun μ2 h2 => aK_i ?_)
    refine wp_bipush (pc := 4) (v := 33) dX8_readClause_4 (by decide) ?_
    refine wp_icmp_ne (pc := 6) (tgt := 13) dX8_readClause_6 rfl (fun _ => ?_) (fun q => absurd q (fun z => c (decide_eq_true ((chI_33 hc).mp z))))
    refine wp_iconst (pc := 13) (v := 0) dX8_readClause_13 (by decide) ?_
    refine wp_istore_n (pc := 14) dX8_readClause_14 (by decide) ?_
    refine wp_iload_n (pc := 15) dX8_readClause_15 (by first | rfl | assumption | (repeat first | assumption | rfl | refine aG_n ?_ rfl rfl)) ?_
    refine wp_if_eq (pc := 16) (tgt := 29) dX8_readClause_16 rfl (fun _ => ?_) (fun q => absurd q (by decide))
    skip
    exact l_rc29 (br := cBr b n p) hT (nx_le hp) kf kt _ h2 _ (by first | rfl | assumption | (repeat first | assumption | rfl | refine aG_n ?_ rfl rfl)) (by first | rfl | assumption | (repeat first | assumption | rfl | refine aG_n ?_ rfl rfl)) (by rw [c']; first | rfl | assumption | (repeat first | assumption | rfl | refine aG_n ?_ rfl rfl))
end PARSEC
/-! all CLAUSES -/
def cS (b : Nat → Nat) (n k : Nat) : Nat := (cL b n (ps b n k)).2
def cV (b : Nat → Nat) (n k : Nat) : Int32 := clV b n (ps b n k)
def cX (b : Nat → Nat) (n k : Nat) : Bool := cBr b n (ps b n k)
def wD (b : Nat → Nat) (n s : Nat) : Nat → Int32
  | 0 => 0
  | k + 1 => wD b n s k + (if cS b n k &&& s = cS b n k then cV b n k else 0)
def bD (b : Nat → Nat) (n s : Nat) : Nat → Bool
  | 0 => false
  | k + 1 => bD b n s k || (cX b n k && decide (cS b n k &&& s = cS b n k))
def dfP (M : MM) (b : Nat → Nat) (n i : Nat) : Prop := M 4 0 = nI i ∧ ∀ s, s < 64 → M 5 s = wD b n s i ∧ M 6 s = b2i (bD b n s i)
section PARSED
variable {X : aX} {μ : Mm} {Q : Option Value → Mm → Prop} {n : Nat} {b : Nat → Nat}
theorem l_clauses (hT : TG μ.1 2 1 3 b n) (k0 : ∀ q x μ', q ≤ n → pa b n 12 0 = -20 - nI q → DR μ μ' x → Q (some (.int (-20 - nI q))) μ') (k1 : ∀ m x μ', 1 ≤ m → m ≤ 12 → pa b n 12 0 = nI m → (∀ k, k < m → clOk b n (ps b n k) ∧ ps b n k ≤ n) → DR μ μ' x → dfP μ'.1 b n m → Q (some (.int (nI m))) μ') : ∀ (f i : Nat), i + f = 12 → 0 < f → pa b n f i = pa b n 12 0 → (∀ k, k < i → clOk b n (ps b n k) ∧ ps b n k ≤ n) → ps b n i ≤ n → ∀ μ', DR μ μ' (ps b n i) → dfP μ'.1 b n i → ∀ L : aL, aL_get L 0 = some (.ref 2) → aL_get L 1 = some (.ref 4) → aL_get L 2 = some (.int (nI (i + 1))) → WP X mX8_readClauses 2 L [] μ' Q
  | 0, i, hi, hf, hpa, hok, hpi, μ', hD, hdf, L, g0, g1, g2 => absurd hf (by omega)
  | f + 1, i, hi, hf, hpa, hok, hpi, μ', hD, hdf, L, g0, g1, g2 => by
    have hn := hT.1
    have hT' := TD hT hD
    by_cases c : clOk b n (ps b n i)
    · have hat := clAt_le hT.2.1 hpi
      have hxx := nx_le (b := b) hat
      have hc := ch_lt (p := nx b n (clAt b n (ps b n i))) hT.2.1
      have hdf2 : ∀ μ2 : Mm, μ2.1 4 0 = μ'.1 4 0 + 1 → (∀ s, s < 64 → μ2.1 5 s = μ'.1 5 s + (if (cL b n (ps b n i)).2 &&& s = (cL b n (ps b n i)).2 then clV b n (ps b n i) else 0) ∧ μ2.1 6 s = (if cBr b n (ps b n i) = true ∧ (cL b n (ps b n i)).2 &&& s = (cL b n (ps b n i)).2 then 1 else μ'.1 6 s)) → dfP μ2.1 b n (i + 1) := by
        intro μ2 z2 s2
        refine ⟨by rw [z2, hdf.1, nI_1], fun s hs => ?_⟩
        obtain ⟨x1, x2⟩ := s2 s hs
        obtain ⟨y1, y2⟩ := hdf.2 s hs
        refine ⟨by rw [x1, y1]; rfl, ?_⟩
        rw [x2, y2]
        rw [show bD b n s (i + 1) = (bD b n s i || (cBr b n (ps b n i) && decide ((cL b n (ps b n i)).2 &&& s = (cL b n (ps b n i)).2))) from rfl]
        by_cases w : cBr b n (ps b n i) = true ∧ (cL b n (ps b n i)).2 &&& s = (cL b n (ps b n i)).2
        · rw [if_pos w, w.1, decide_eq_true w.2]; simp [b2i]
        · rw [if_neg w]
          have : (cBr b n (ps b n i) && decide ((cL b n (ps b n i)).2 &&& s = (cL b n (ps b n i)).2)) = false := by
            simpa [Bool.and_eq_true] using w
          rw [this, Bool.or_false]
      have hok2 : ∀ k, k < i + 1 → clOk b n (ps b n k) ∧ ps b n k ≤ n := fun k hk => if e : k = i then e ▸ ⟨c, hpi⟩ else hok k (by omega)
      unfold pa at hpa
      rw [if_pos c] at hpa
      by_cases c2 : ch b n (nx b n (clAt b n (ps b n i))) = 59 ∧ i ≠ 11
      · rw [if_pos c2] at hpa
        have hlt : nx b n (clAt b n (ps b n i)) < n := ch_n (by rw [c2.1]; decide)
        refine wp_iload_n (pc := 2) dX8_readClauses_2 (by first | rfl | assumption | (repeat first | assumption | rfl | refine aG_n ?_ rfl rfl)) ?_
        refine wp_bipush (pc := 3) (v := 12) dX8_readClauses_3 (by decide) ?_
        refine wp_icmp_gt (pc := 5) (tgt := 54) dX8_readClauses_5 rfl (fun q => absurd q (nI_nlt (a := 12) (by omega) (by omega))) (fun _ => ?_)
        refine wp_aload_n (pc := 8) dX8_readClauses_8 (by first | rfl | assumption | (repeat first | assumption | rfl | refine aG_n ?_ rfl rfl)) ?_
        refine wp_aload_n (pc := 9) dX8_readClauses_9 (by first | rfl | assumption | (repeat first | assumption | rfl | refine aG_n ?_ rfl rfl)) ?_
        refine wp_cV (pc := 10) dX8_readClauses_10 lk_8_39 rfl (by decide) rfl (by first | rfl | assumption | exact sh_house (by omega) | exact sh_wish (by omega) | exact sh_wor (by omega) | exact sh_bar (by omega) | exact sh_term (by omega) | exact sh_sheet (by omega) | exact sh_items (by omega) | exact sh_sums (by omega)) rfl rfl ?_
        refine c_X8_readClause hT' hpi hD.2.2 (fun q => absurd c q) (fun _ μ2 d2 z2 s2 => aK_i ?_)
        refine wp_istore_n (pc := 13) dX8_readClauses_13 (by decide) ?_
        refine wp_iload_n (pc := 14) dX8_readClauses_14 (by first | rfl | assumption | (repeat first | assumption | rfl | refine aG_n ?_ rfl rfl)) ?_
        refine wp_if_ge (pc := 15) (tgt := 20) dX8_readClauses_15 rfl (fun _ => ?_) (fun q => absurd (by decide) q)
        refine wp_aload_n (pc := 20) dX8_readClauses_20 (by first | rfl | assumption | (repeat first | assumption | rfl | refine aG_n ?_ rfl rfl)) ?_
        refine wp_cV (pc := 21) dX8_readClauses_21 lk_8_42 rfl (by decide) rfl (by first | rfl | assumption | exact sh_house (by omega) | exact sh_wish (by omega) | exact sh_wor (by omega) | exact sh_bar (by omega) | exact sh_term (by omega) | exact sh_sheet (by omega) | exact sh_items (by omega) | exact sh_sums (by omega)) rfl rfl ?_
        refine c_X8_next (TD hT' d2) hat d2.2.2 (fun μ3 h3 => aK_i ?_)
        refine wp_bipush (pc := 24) (v := 59) dX8_readClauses_24 (by decide) ?_
        refine wp_icmp_ne (pc := 26) (tgt := 54) dX8_readClauses_26 rfl (fun q => absurd ((chI_59 hc).mpr c2.1) q) (fun _ => ?_)
        refine wp_iload_n (pc := 29) dX8_readClauses_29 (by first | rfl | assumption | (repeat first | assumption | rfl | refine aG_n ?_ rfl rfl)) ?_
        refine wp_bipush (pc := 30) (v := 12) dX8_readClauses_30 (by decide) ?_
        refine wp_icmp_ne (pc := 32) (tgt := 38) dX8_readClauses_32 rfl (fun _ => ?_) (fun q => absurd q (by rw [show (12 : Int32) = nI 12 from rfl, nI_eq (by omega) (by omega)]; omega))
        refine wp_aload_n (pc := 38) dX8_readClauses_38 (by first | rfl | assumption | (repeat first | assumption | rfl | refine aG_n ?_ rfl rfl)) ?_
        refine wp_dupr (pc := 39) dX8_readClauses_39 ?_
        refine wp_getI (pc := 40) dX8_readClauses_40 fl_8_32 (by first | rfl | assumption | exact sh_house (by omega) | exact sh_wish (by omega) | exact sh_wor (by omega) | exact sh_bar (by omega) | exact sh_term (by omega) | exact sh_sheet (by omega) | exact sh_items (by omega) | exact sh_sums (by omega)) rfl ?_
        refine wp_iconst (pc := 43) (v := 1) dX8_readClauses_43 (by decide) ?_
        refine wp_iadd (pc := 44) dX8_readClauses_44 ?_
        refine wp_putI (pc := 45) dX8_readClauses_45 fl_8_32 (by first | rfl | assumption | exact sh_house (by omega) | exact sh_wish (by omega) | exact sh_wor (by omega) | exact sh_bar (by omega) | exact sh_term (by omega) | exact sh_sheet (by omega) | exact sh_items (by omega) | exact sh_sums (by omega)) rfl rfl rfl ?_
        refine wp_iinc (pc := 48) dX8_readClauses_48 (by decide) (by first | rfl | assumption | (repeat first | assumption | rfl | refine aG_n ?_ rfl rfl)) rfl ?_
        refine wp_goto (pc := 51) (tgt := 2) dX8_readClauses_51 rfl ?_
        skip
        have hdd := hdf2 _ z2 s2
        have hup := h3.up (q := nx b n (clAt b n (ps b n i)) + 1) (v := μ3.1 2 2 + 1) (by rw [h3.2.2, nI_1])
        refine l_clauses hT k0 k1 f (i + 1) (by omega) (by omega) hpa hok2 hlt _ ((hD.trans d2).trans hup.dr) ⟨?_, fun s hs => ?_⟩ _ (by first | rfl | assumption | (repeat first | assumption | rfl | refine aG_n ?_ rfl rfl)) (by first | rfl | assumption | (repeat first | assumption | rfl | refine aG_n ?_ rfl rfl)) (by rw [← nI_i1 (i + 1)]; first | rfl | assumption | (repeat first | assumption | rfl | refine aG_n ?_ rfl rfl))
        · rw [hup.1 4 0 (by omega)]; exact hdd.1
        · rw [hup.1 5 s (by omega), hup.1 6 s (by omega)]; exact hdd.2 s hs
      · rw [if_neg c2] at hpa
        have tl : ∀ μ2 μ3 : Mm, DR μ' μ2 (clAt b n (ps b n i)) → dfP μ2.1 b n (i + 1) → PL 2 2 μ2 μ3 (nx b n (clAt b n (ps b n i))) → ∀ L : aL, aL_get L 0 = some (.ref 2) → aL_get L 1 = some (.ref 4) → WP X mX8_readClauses 54 L [] μ3 Q := by
          intro μ2 μ3 d2 hdd h3 L g0 g1
          by_cases c3 : ch b n (nx b n (clAt b n (ps b n i))) = 0
          · rw [if_pos c3] at hpa
            refine wp_aload_n (pc := 54) dX8_readClauses_54 (by first | rfl | assumption | (repeat first | assumption | rfl | refine aG_n ?_ rfl rfl)) ?_
            refine wp_cV (pc := 55) dX8_readClauses_55 lk_8_42 rfl (by decide) rfl (by first | rfl | assumption | exact sh_house (by omega) | exact sh_wish (by omega) | exact sh_wor (by omega) | exact sh_bar (by omega) | exact sh_term (by omega) | exact sh_sheet (by omega) | exact sh_items (by omega) | exact sh_sums (by omega)) rfl rfl ?_
            refine c_X8_next (TC (TD hT' d2) h3) hxx h3.2.2 (fun μ4 h4 => ?_)
            rw [nx_i] at h4 ⊢
            refine aK_i ?_
            refine wp_iconst (pc := 58) (v := -1) dX8_readClauses_58 (by decide) ?_
            refine wp_icmp_ne (pc := 59) (tgt := 69) dX8_readClauses_59 rfl (fun q => absurd ((chI_m1 _ hc).mpr c3) q) (fun _ => ?_)
            refine wp_aload_n (pc := 62) dX8_readClauses_62 (by first | rfl | assumption | (repeat first | assumption | rfl | refine aG_n ?_ rfl rfl)) ?_
            refine wp_getI (pc := 63) dX8_readClauses_63 fl_8_46 (by first | rfl | assumption | exact sh_house (by omega) | exact sh_wish (by omega) | exact sh_wor (by omega) | exact sh_bar (by omega) | exact sh_term (by omega) | exact sh_sheet (by omega) | exact sh_items (by omega) | exact sh_sums (by omega)) rfl ?_
            refine wp_goto (pc := 66) (tgt := 76) dX8_readClauses_66 rfl ?_
            refine wp_ireturn (pc := 76) dX8_readClauses_76 rfl (by first | rfl | decide | assumption) ?_
            skip
            have h34 := h3.trans h4
            refine qEq (b := nI (i + 1)) (by rw [h34.1 4 0 (by omega)]; exact hdd.1) (k1 (i + 1) _ _ (by omega) (by omega) hpa.symm hok2 ((hD.trans d2).trans h34.dr) ⟨?_, fun s hs => ?_⟩)
            · rw [h34.1 4 0 (by omega)]; exact hdd.1
            · rw [h34.1 5 s (by omega), h34.1 6 s (by omega)]; exact hdd.2 s hs
          · rw [if_neg c3] at hpa
            refine wp_aload_n (pc := 54) dX8_readClauses_54 (by first | rfl | assumption | (repeat first | assumption | rfl | refine aG_n ?_ rfl rfl)) ?_
            refine wp_cV (pc := 55) dX8_readClauses_55 lk_8_42 rfl (by decide) rfl (by first | rfl | assumption | exact sh_house (by omega) | exact sh_wish (by omega) | exact sh_wor (by omega) | exact sh_bar (by omega) | exact sh_term (by omega) | exact sh_sheet (by omega) | exact sh_items (by omega) | exact sh_sums (by omega)) rfl rfl ?_
            refine c_X8_next (TC (TD hT' d2) h3) hxx h3.2.2 (fun μ4 h4 => ?_)
            rw [nx_i] at h4 ⊢
            refine aK_i ?_
            refine wp_iconst (pc := 58) (v := -1) dX8_readClauses_58 (by decide) ?_
            refine wp_icmp_ne (pc := 59) (tgt := 69) dX8_readClauses_59 rfl (fun _ => ?_) (fun q => absurd q (fun z => c3 ((chI_m1 _ hc).mp z)))
            refine wp_aload_n (pc := 69) dX8_readClauses_69 (by first | rfl | assumption | (repeat first | assumption | rfl | refine aG_n ?_ rfl rfl)) ?_
            refine wp_getI (pc := 70) dX8_readClauses_70 fl_8_32 (by first | rfl | assumption | exact sh_house (by omega) | exact sh_wish (by omega) | exact sh_wor (by omega) | exact sh_bar (by omega) | exact sh_term (by omega) | exact sh_sheet (by omega) | exact sh_items (by omega) | exact sh_sums (by omega)) rfl ?_
            refine wp_cS (pc := 73) dX8_readClauses_73 lk_8_49 rfl rfl rfl ?_
            refine wp_bipush (pc := 0) (v := -20) dX8_faultAt_0 (by decide) ?_
            refine wp_iload_n (pc := 2) dX8_faultAt_2 (by first | rfl | assumption | (repeat first | assumption | rfl | refine aG_n ?_ rfl rfl)) ?_
            refine wp_isub (pc := 3) dX8_faultAt_3 ?_
            refine wp_iretK (pc := 4) dX8_faultAt_4 rfl (by first | rfl | decide | assumption) ?_
            refine wp_ireturn (pc := 76) dX8_readClauses_76 rfl (by first | rfl | decide | assumption) ?_
            rw [h4.2.2]
            exact k0 _ _ _ hxx hpa.symm ((hD.trans d2).trans (h3.trans h4).dr)
        by_cases c4 : ch b n (nx b n (clAt b n (ps b n i))) = 59
        · have i11 : i = 11 := by
            by_cases e : i = 11
            · exact e
            · exact absurd ⟨c4, e⟩ c2
          refine wp_iload_n (pc := 2) dX8_readClauses_2 (by first | rfl | assumption | (repeat first | assumption | rfl | refine aG_n ?_ rfl rfl)) ?_
          refine wp_bipush (pc := 3) (v := 12) dX8_readClauses_3 (by decide) ?_
          refine wp_icmp_gt (pc := 5) (tgt := 54) dX8_readClauses_5 rfl (fun q => absurd q (nI_nlt (a := 12) (by omega) (by omega))) (fun _ => ?_)
          refine wp_aload_n (pc := 8) dX8_readClauses_8 (by first | rfl | assumption | (repeat first | assumption | rfl | refine aG_n ?_ rfl rfl)) ?_
          refine wp_aload_n (pc := 9) dX8_readClauses_9 (by first | rfl | assumption | (repeat first | assumption | rfl | refine aG_n ?_ rfl rfl)) ?_
          refine wp_cV (pc := 10) dX8_readClauses_10 lk_8_39 rfl (by decide) rfl (by first | rfl | assumption | exact sh_house (by omega) | exact sh_wish (by omega) | exact sh_wor (by omega) | exact sh_bar (by omega) | exact sh_term (by omega) | exact sh_sheet (by omega) | exact sh_items (by omega) | exact sh_sums (by omega)) rfl rfl ?_
          refine c_X8_readClause hT' hpi hD.2.2 (fun q => absurd c q) (fun _ μ2 d2 z2 s2 => aK_i ?_)
          refine wp_istore_n (pc := 13) dX8_readClauses_13 (by decide) ?_
          refine wp_iload_n (pc := 14) dX8_readClauses_14 (by first | rfl | assumption | (repeat first | assumption | rfl | refine aG_n ?_ rfl rfl)) ?_
          refine wp_if_ge (pc := 15) (tgt := 20) dX8_readClauses_15 rfl (fun _ => ?_) (fun q => absurd (by decide) q)
          refine wp_aload_n (pc := 20) dX8_readClauses_20 (by first | rfl | assumption | (repeat first | assumption | rfl | refine aG_n ?_ rfl rfl)) ?_
          refine wp_cV (pc := 21) dX8_readClauses_21 lk_8_42 rfl (by decide) rfl (by first | rfl | assumption | exact sh_house (by omega) | exact sh_wish (by omega) | exact sh_wor (by omega) | exact sh_bar (by omega) | exact sh_term (by omega) | exact sh_sheet (by omega) | exact sh_items (by omega) | exact sh_sums (by omega)) rfl rfl ?_
          refine c_X8_next (TD hT' d2) hat d2.2.2 (fun μ3 h3 => aK_i ?_)
          refine wp_bipush (pc := 24) (v := 59) dX8_readClauses_24 (by decide) ?_
          refine wp_icmp_ne (pc := 26) (tgt := 54) dX8_readClauses_26 rfl (fun q => absurd ((chI_59 hc).mpr c4) q) (fun _ => ?_)
          refine wp_iload_n (pc := 29) dX8_readClauses_29 (by first | rfl | assumption | (repeat first | assumption | rfl | refine aG_n ?_ rfl rfl)) ?_
          refine wp_bipush (pc := 30) (v := 12) dX8_readClauses_30 (by decide) ?_
          refine wp_icmp_ne (pc := 32) (tgt := 38) dX8_readClauses_32 rfl (fun q => absurd (by rw [i11]; rfl) q) (fun _ => ?_)
          refine wp_goto (pc := 35) (tgt := 54) dX8_readClauses_35 rfl ?_
          exact tl _ _ d2 (hdf2 _ z2 s2) h3 _ (by first | rfl | assumption | (repeat first | assumption | rfl | refine aG_n ?_ rfl rfl)) (by first | rfl | assumption | (repeat first | assumption | rfl | refine aG_n ?_ rfl rfl))
        · refine wp_iload_n (pc := 2) dX8_readClauses_2 (by first | rfl | assumption | (repeat first | assumption | rfl | refine aG_n ?_ rfl rfl)) ?_
          refine wp_bipush (pc := 3) (v := 12) dX8_readClauses_3 (by decide) ?_
          refine wp_icmp_gt (pc := 5) (tgt := 54) dX8_readClauses_5 rfl (fun q => absurd q (nI_nlt (a := 12) (by omega) (by omega))) (fun _ => ?_)
          refine wp_aload_n (pc := 8) dX8_readClauses_8 (by first | rfl | assumption | (repeat first | assumption | rfl | refine aG_n ?_ rfl rfl)) ?_
          refine wp_aload_n (pc := 9) dX8_readClauses_9 (by first | rfl | assumption | (repeat first | assumption | rfl | refine aG_n ?_ rfl rfl)) ?_
          refine wp_cV (pc := 10) dX8_readClauses_10 lk_8_39 rfl (by decide) rfl (by first | rfl | assumption | exact sh_house (by omega) | exact sh_wish (by omega) | exact sh_wor (by omega) | exact sh_bar (by omega) | exact sh_term (by omega) | exact sh_sheet (by omega) | exact sh_items (by omega) | exact sh_sums (by omega)) rfl rfl ?_
          refine c_X8_readClause hT' hpi hD.2.2 (fun q => absurd c q) (fun _ μ2 d2 z2 s2 => aK_i ?_)
          refine wp_istore_n (pc := 13) dX8_readClauses_13 (by decide) ?_
          refine wp_iload_n (pc := 14) dX8_readClauses_14 (by first | rfl | assumption | (repeat first | assumption | rfl | refine aG_n ?_ rfl rfl)) ?_
          refine wp_if_ge (pc := 15) (tgt := 20) dX8_readClauses_15 rfl (fun _ => ?_) (fun q => absurd (by decide) q)
          refine wp_aload_n (pc := 20) dX8_readClauses_20 (by first | rfl | assumption | (repeat first | assumption | rfl | refine aG_n ?_ rfl rfl)) ?_
          refine wp_cV (pc := 21) dX8_readClauses_21 lk_8_42 rfl (by decide) rfl (by first | rfl | assumption | exact sh_house (by omega) | exact sh_wish (by omega) | exact sh_wor (by omega) | exact sh_bar (by omega) | exact sh_term (by omega) | exact sh_sheet (by omega) | exact sh_items (by omega) | exact sh_sums (by omega)) rfl rfl ?_
          refine c_X8_next (TD hT' d2) hat d2.2.2 (fun μ3 h3 => aK_i ?_)
          refine wp_bipush (pc := 24) (v := 59) dX8_readClauses_24 (by decide) ?_
          refine wp_icmp_ne (pc := 26) (tgt := 54) dX8_readClauses_26 rfl (fun _ => ?_) (fun q => absurd q (fun z => c4 ((chI_59 hc).mp z)))
          exact tl _ _ d2 (hdf2 _ z2 s2) h3 _ (by first | rfl | assumption | (repeat first | assumption | rfl | refine aG_n ?_ rfl rfl)) (by first | rfl | assumption | (repeat first | assumption | rfl | refine aG_n ?_ rfl rfl))
    · unfold pa at hpa
      rw [if_neg c] at hpa
      have hcf : clF b n (ps b n i) ≤ n := by
        unfold clF
        split
        · exact cL_le hT.2.1 hpi
        · exact nQ_le (cL_le hT.2.1 hpi)
      refine wp_iload_n (pc := 2) dX8_readClauses_2 (by first | rfl | assumption | (repeat first | assumption | rfl | refine aG_n ?_ rfl rfl)) ?_
      refine wp_bipush (pc := 3) (v := 12) dX8_readClauses_3 (by decide) ?_
      refine wp_icmp_gt (pc := 5) (tgt := 54) dX8_readClauses_5 rfl (fun q => absurd q (nI_nlt (a := 12) (by omega) (by omega))) (fun _ => ?_)
      refine wp_aload_n (pc := 8) dX8_readClauses_8 (by first | rfl | assumption | (repeat first | assumption | rfl | refine aG_n ?_ rfl rfl)) ?_
      refine wp_aload_n (pc := 9) dX8_readClauses_9 (by first | rfl | assumption | (repeat first | assumption | rfl | refine aG_n ?_ rfl rfl)) ?_
      refine wp_cV (pc := 10) dX8_readClauses_10 lk_8_39 rfl (by decide) rfl (by first | rfl | assumption | exact sh_house (by omega) | exact sh_wish (by omega) | exact sh_wor (by omega) | exact sh_bar (by omega) | exact sh_term (by omega) | exact sh_sheet (by omega) | exact sh_items (by omega) | exact sh_sums (by omega)) rfl rfl ?_
      refine c_X8_readClause hT' hpi hD.2.2 (fun _ x μ2 d2 => aK_i ?_) (fun q => absurd q c)
      refine wp_istore_n (pc := 13) dX8_readClauses_13 (by decide) ?_
      refine wp_iload_n (pc := 14) dX8_readClauses_14 (by first | rfl | assumption | (repeat first | assumption | rfl | refine aG_n ?_ rfl rfl)) ?_
      refine wp_if_ge (pc := 15) (tgt := 20) dX8_readClauses_15 rfl (fun q => absurd q (flt_nle (by omega))) (fun _ => ?_)
      refine wp_iload_n (pc := 18) dX8_readClauses_18 (by first | rfl | assumption | (repeat first | assumption | rfl | refine aG_n ?_ rfl rfl)) ?_
      refine wp_ireturn (pc := 19) dX8_readClauses_19 rfl (by first | rfl | decide | assumption) ?_
      exact k0 _ _ _ hcf hpa.symm (hD.trans d2)
theorem l_ri14 {v : Int32} (k : Q (some (.int v)) (up2 μ.1 2 1 0, μ.2)) (L : aL) (g0 : aL_get L 0 = some (.ref 2)) : WP X mX8_readInto 14 L [.int v] μ Q := by
  refine wp_istore_n (pc := 14) dX8_readInto_14 (by decide) ?_
  refine wp_aload_n (pc := 15) dX8_readInto_15 (by first | rfl | assumption | (repeat first | assumption | rfl | refine aG_n ?_ rfl rfl)) ?_
  refine wp_iconst (pc := 16) (v := 0) dX8_readInto_16 (by decide) ?_
  refine wp_putI (pc := 17) dX8_readInto_17 fl_8_23 (by first | rfl | assumption | exact sh_house (by omega) | exact sh_wish (by omega) | exact sh_wor (by omega) | exact sh_bar (by omega) | exact sh_term (by omega) | exact sh_sheet (by omega) | exact sh_items (by omega) | exact sh_sums (by omega)) rfl rfl rfl ?_
  refine wp_iload_n (pc := 20) dX8_readInto_20 (by first | rfl | assumption | (repeat first | assumption | rfl | refine aG_n ?_ rfl rfl)) ?_
  refine wp_ireturn (pc := 21) dX8_readInto_21 rfl (by first | rfl | decide | assumption) ?_
  exact k
theorem c_X8_readClauses (hT : TG μ.1 2 1 3 b n) (hP : μ.1 2 2 = nI 0) (hd : dfP μ.1 b n 0) (k0 : ∀ q x μ', q ≤ n → pa b n 12 0 = -20 - nI q → DR μ μ' x → Q (some (.int (-20 - nI q))) μ') (k1 : ∀ m x μ', 1 ≤ m → m ≤ 12 → pa b n 12 0 = nI m → (∀ k, k < m → clOk b n (ps b n k) ∧ ps b n k ≤ n) → DR μ μ' x → dfP μ'.1 b n m → Q (some (.int (nI m))) μ') : WP X mX8_readClauses 0 (lv_args 0 [.ref 2, .ref 4]) [] μ Q := by
  refine wp_iconst (pc := 0) (v := 1) dX8_readClauses_0 (by decide) ?_
  refine wp_istore_n (pc := 1) dX8_readClauses_1 (by decide) ?_
  exact l_clauses hT k0 k1 12 0 (by omega) (by omega) rfl (fun k hk => absurd hk (by omega)) (Nat.zero_le _) _ ⟨fun _ _ _ _ => rfl, rfl, hP⟩ hd _ (by first | rfl | assumption | (repeat first | assumption | rfl | refine aG_n ?_ rfl rfl)) (by first | rfl | assumption | (repeat first | assumption | rfl | refine aG_n ?_ rfl rfl)) (by first | rfl | assumption | (repeat first | assumption | rfl | refine aG_n ?_ rfl rfl))
theorem c_X8_readInto (hT : TG μ.1 2 1 3 b n) (k0 : ∀ q μ', q ≤ n → pa b n 12 0 = -20 - nI q → (∀ c j, ¬ (c = 2 ∧ (j = 1 ∨ j = 2)) → ¬ (4 ≤ c ∧ c ≤ 6) → μ'.1 c j = μ.1 c j) → μ'.2 = μ.2 → μ'.1 2 1 = 0 → Q (some (.int (-20 - nI q))) μ') (k1 : ∀ m μ', 1 ≤ m → m ≤ 12 → pa b n 12 0 = nI m → (∀ k, k < m → clOk b n (ps b n k) ∧ ps b n k ≤ n) → (∀ c j, ¬ (c = 2 ∧ (j = 1 ∨ j = 2)) → ¬ (4 ≤ c ∧ c ≤ 6) → μ'.1 c j = μ.1 c j) → μ'.2 = μ.2 → μ'.1 2 1 = 0 → dfP μ'.1 b n m → Q (some (.int (nI m))) μ') : WP X mX8_readInto 0 (lv_args 0 [.ref 2, .ref 4]) [] μ Q := by
  refine wp_aload_n (pc := 0) dX8_readInto_0 (by first | rfl | assumption | (repeat first | assumption | rfl | refine aG_n ?_ rfl rfl)) ?_
  refine wp_cV (pc := 1) dX8_readInto_1 lk_8_27 rfl (by decide) rfl (by first | rfl | assumption | exact sh_house (by omega) | exact sh_wish (by omega) | exact sh_wor (by omega) | exact sh_bar (by omega) | exact sh_term (by omega) | exact sh_sheet (by omega) | exact sh_items (by omega) | exact sh_sums (by omega)) rfl rfl ?_
  refine c_X10_clear (W := 4) Wsh_d (fun μ1 o1 z1 s1 => aK_v ?_)
  refine wp_aload_n (pc := 4) dX8_readInto_4 (by first | rfl | assumption | (repeat first | assumption | rfl | refine aG_n ?_ rfl rfl)) ?_
  refine wp_iconst (pc := 5) (v := 0) dX8_readInto_5 (by decide) ?_
  refine wp_putI (pc := 6) dX8_readInto_6 fl_8_32 (by first | rfl | assumption | exact sh_house (by omega) | exact sh_wish (by omega) | exact sh_wor (by omega) | exact sh_bar (by omega) | exact sh_term (by omega) | exact sh_sheet (by omega) | exact sh_items (by omega) | exact sh_sums (by omega)) rfl rfl rfl ?_
  refine wp_aload_n (pc := 9) dX8_readInto_9 (by first | rfl | assumption | (repeat first | assumption | rfl | refine aG_n ?_ rfl rfl)) ?_
  refine wp_aload_n (pc := 10) dX8_readInto_10 (by first | rfl | assumption | (repeat first | assumption | rfl | refine aG_n ?_ rfl rfl)) ?_
  refine wp_cV (pc := 11) dX8_readInto_11 lk_8_35 rfl (by decide) rfl (by first | rfl | assumption | exact sh_house (by omega) | exact sh_wish (by omega) | exact sh_wor (by omega) | exact sh_bar (by omega) | exact sh_term (by omega) | exact sh_sheet (by omega) | exact sh_items (by omega) | exact sh_sums (by omega)) rfl rfl ?_
  have t1 : TG (up2 μ1.1 2 2 0) 2 1 3 b n := hT.c (by rw [up2_p (by omega), o1.1 2 (by omega)]) (fun j => by rw [up2_ne (by omega), o1.1 3 (by omega)])
  have d1 : dfP (up2 μ1.1 2 2 0) b n 0 := ⟨by rw [up2_ne (by omega)]; exact z1, fun s hs => by rw [up2_ne (show 5 ≠ 2 by decide), up2_ne (show 6 ≠ 2 by decide)]; exact s1 s hs⟩
  have same : ∀ x (μ3 : Mm), DR (up2 μ1.1 2 2 0, μ1.2) μ3 x → (∀ c j, ¬ (c = 2 ∧ (j = 1 ∨ j = 2)) → ¬ (4 ≤ c ∧ c ≤ 6) → up2 μ3.1 2 1 0 c j = μ.1 c j) ∧ μ3.2 = μ.2 := fun x μ3 d3 => ⟨fun c j h1 h2 => by rw [up2_p (by omega), d3.1 c j (by omega) h2]; dsimp only; rw [up2_p (by omega), o1.1 c (by omega)], d3.2.1.trans o1.2⟩
  refine c_X8_readClauses t1 (by dsimp only; rw [up2_at]; rfl) d1 (fun q x μ3 hq hpa d3 => aK_i ?_) (fun m x μ3 h1 h2 hpa hok d3 df => aK_i ?_)
  · exact l_ri14 (k0 q _ hq hpa (same x μ3 d3).1 (same x μ3 d3).2 (by dsimp only; exact up2_at)) _ (by first | rfl | assumption | (repeat first | assumption | rfl | refine aG_n ?_ rfl rfl))
  · refine l_ri14 (k1 m _ h1 h2 hpa hok (same x μ3 d3).1 (same x μ3 d3).2 (by dsimp only; exact up2_at) ⟨?_, fun s hs => ?_⟩) _ (by first | rfl | assumption | (repeat first | assumption | rfl | refine aG_n ?_ rfl rfl))
    · dsimp only; rw [up2_ne (by omega)]; exact df.1
    · dsimp only; rw [up2_ne (show 5 ≠ 2 by decide), up2_ne (show 6 ≠ 2 by decide)]; exact df.2 s hs
end PARSED

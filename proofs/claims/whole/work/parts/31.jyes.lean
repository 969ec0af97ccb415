theorem zOf3 (w mo : Nat) : zOf 3 w mo = 2 := rfl
/-- memory behind a YES of both sides -/
def yesC (M : MM) (a b m u : Nat) (p : Int32) : MM := addM (agM M a b u p) (m + 1) 3 0 0 2
def yesM (M N : MM) (a b m u : Nat) (p : Int32) : MM := sayM (up2 (up2 (sw87 N a b u 6) 88 a (M 88 a - p)) 88 b (M 88 b + p)) (m + 1) 3 0 0 2
theorem Inv_agree {μ : Mm} {a b mo m u : Nat} {p : Int32} (hI : Inv μ) (hT : TK μ a b mo (m + 1)) (hof : isOf μ.1 m) (hu : wu μ.1 m = u) (hp : μ.1 102 m = p) (hg : goM μ.1 a b u p) : Inv (yesM μ.1 (yesC μ.1 a b m u p) a b m u p, μ.2) := by
  obtain ⟨⟨k0, k1⟩, ⟨ha, hb, hab⟩, kp, ⟨km1, km2, km3, km4⟩, ⟨kw1, kw2⟩, -, -, kq, kof⟩ := hT
  obtain ⟨eu, hu6, -, hsub⟩ := kof m (by omega) hof
  rw [hu] at eu hu6 hsub
  have hTA := talk_add (kd := 3) (st := 0) (pr := 0) hI.2.2.2.2.2.1 k0 kw2 (by omega) km2 km3 (by unfold inR; decide) (fun z => absurd z (by decide)) (fun _ => ⟨rfl, rfl⟩) (fun z => absurd z (by decide))
  rw [zOf3] at hTA
  have hO := hI.1
  have hC := hI.2.1
  unfold yesM yesC sayM addM agM at *
  refine ⟨?_, ?_, lev_c ⟨(by simp (disch := omega) only [up2_ne, fil_ne, sw_ne]), (by simp (disch := omega) only [up2_ne, fil_ne, sw_ne]), (by simp (disch := omega) only [up2_ne, fil_ne, sw_ne])⟩ (fun i9 hi9 => ⟨(by simp (disch := omega) only [up2_ne, up2_p, fil_ne, fil_p, sw_ne]), (by simp (disch := omega) only [up2_ne, up2_p, fil_ne, fil_p, sw_ne]), (by simp (disch := omega) only [up2_ne, up2_p, fil_ne, fil_p, sw_ne])⟩) (hI.2.2.1), wish_c ⟨(by simp (disch := omega) only [up2_ne, fil_ne, sw_ne]), (by simp (disch := omega) only [up2_ne, fil_ne, sw_ne]), (by simp (disch := omega) only [up2_ne, fil_ne, sw_ne]), (by simp (disch := omega) only [up2_ne, fil_ne, sw_ne])⟩ (fun i9 hi9 => ⟨(by simp (disch := omega) only [up2_ne, fil_ne, sw_ne]), (by simp (disch := omega) only [up2_ne, fil_ne, sw_ne]), (by simp (disch := omega) only [up2_ne, fil_ne, sw_ne])⟩) (hI.2.2.2.1), tape_c (by simp (disch := omega) only [up2_ne, up2_p, fil_ne, fil_p, sw_ne]) (by simp (disch := omega) only [up2_ne, up2_p, fil_ne, fil_p, sw_ne]) (by simp (disch := omega) only [up2_ne, fil_ne, sw_ne]) (by simp (disch := omega) only [up2_ne, fil_ne, sw_ne]) (hI.2.2.2.2.1), ?_, led_c (by simp (disch := omega) only [up2_ne, up2_p, fil_ne, fil_p, sw_ne]) (by simp (disch := omega) only [up2_ne, up2_p, fil_ne, fil_p, sw_ne]) (fun i9 hi9 => (by simp (disch := omega) only [up2_ne, fil_ne, sw_ne])) (fun c9 hc9 hd9 => (by simp (disch := omega) only [up2_ne, fil_ne, sw_ne])) ⟨(by simp (disch := omega) only [up2_ne, fil_ne, sw_ne]), (by simp (disch := omega) only [up2_ne, fil_ne, sw_ne])⟩ (hI.2.2.2.2.2.2.1), row_c (by simp (disch := omega) only [up2_ne, fil_ne, sw_ne]) (by simp (disch := omega) only [up2_ne, fil_ne, sw_ne]) (hI.2.2.2.2.2.2.2.1), sheet_c ⟨(by simp (disch := omega) only [up2_ne, fil_ne, sw_ne]), (by simp (disch := omega) only [up2_ne, fil_ne, sw_ne]), (by simp (disch := omega) only [up2_ne, fil_ne, sw_ne])⟩ (fun s9 hs9 => ⟨(by simp (disch := omega) only [up2_ne, fil_ne, sw_ne]), (by simp (disch := omega) only [up2_ne, fil_ne, sw_ne])⟩) (hI.2.2.2.2.2.2.2.2.1), grp_c (by simp (disch := omega) only [up2_ne, up2_p, fil_ne, fil_p, sw_ne]) (fun g9 hg9 => (by simp (disch := omega) only [up2_ne, fil_ne, sw_ne])) (fun i9 hi9 => ⟨(by simp (disch := omega) only [up2_ne, fil_ne, sw_ne]), (by simp (disch := omega) only [up2_ne, fil_ne, sw_ne])⟩) (hI.2.2.2.2.2.2.2.2.2)⟩
  · have e87 : ∀ t, t < 6 → up2 (up2 (up2 (up2 (up2 (up2 (up2 (sw87 (up2 (up2 (up2 (up2 (up2 (up2 (up2 (up2 (up2 μ.1 (55 + 4 * a) 0 (μ.1 (55 + 4 * a) 0 ^^^ nI u)) (55 + 4 * b) 0 (μ.1 (55 + 4 * b) 0 ^^^ nI u)) (55 + 4 * a) 1 (μ.1 (55 + 4 * a) 1 - p)) (55 + 4 * b) 1 (μ.1 (55 + 4 * b) 1 + p)) 75 (m + 1) 3) 76 (m + 1) 0) 77 (m + 1) 0) 73 3 (nI (m + 1 + 1))) 73 0 2) a b u 6) 88 a (μ.1 88 a - p)) 88 b (μ.1 88 b + p)) 100 (m + 1) 3) 101 (m + 1) 0) 102 (m + 1) 0) 86 19 (nI (m + 1 + 1))) 86 15 2 87 t = if u.testBit t = true then (if μ.1 87 t = nI a then nI b else nI a) else μ.1 87 t := by
      intro t ht
      simp (disch := omega) only [up2_ne]
      unfold sw87
      simp (disch := omega) only [up2_ne]
      by_cases c : u.testBit t = true
      · rw [if_pos c, if_pos ⟨trivial, ht, c⟩]
      · rw [if_neg c, if_neg (fun z => c z.2.2)]
    refine ⟨fun t ht => ?_, fun i hi => ?_⟩
    · refine Eq.mpr ?_ (show ∃ j, j < 4 ∧ (if u.testBit t = true then (if μ.1 87 t = nI a then nI b else nI a) else μ.1 87 t) = nI j from ?_)
      · congr 1; funext j; congr 1; exact congrArg (· = nI j) (e87 t ht)
      · split
        · split
          · exact ⟨b, hb, rfl⟩
          · exact ⟨a, ha, rfl⟩
        · exact hO.1 t ht
    · have key : up2 (up2 (up2 (up2 (up2 (up2 (up2 (sw87 (up2 (up2 (up2 (up2 (up2 (up2 (up2 (up2 (up2 μ.1 (55 + 4 * a) 0 (μ.1 (55 + 4 * a) 0 ^^^ nI u)) (55 + 4 * b) 0 (μ.1 (55 + 4 * b) 0 ^^^ nI u)) (55 + 4 * a) 1 (μ.1 (55 + 4 * a) 1 - p)) (55 + 4 * b) 1 (μ.1 (55 + 4 * b) 1 + p)) 75 (m + 1) 3) 76 (m + 1) 0) 77 (m + 1) 0) 73 3 (nI (m + 1 + 1))) 73 0 2) a b u 6) 88 a (μ.1 88 a - p)) 88 b (μ.1 88 b + p)) 100 (m + 1) 3) 101 (m + 1) 0) 102 (m + 1) 0) 86 19 (nI (m + 1 + 1))) 86 15 2 (55 + 4 * i) 0 = nI (th μ.1 i ^^^ (if i = a ∨ i = b then u else 0)) := by
        simp (disch := omega) only [up2_ne, sw_ne]
        by_cases z1 : i = b
        · subst z1
          simp (disch := omega) only [up2_p, up2_at, or_true, if_true]
          rw [hO.2 i hi, xor6 (th_lt _ _) hu6]
        · by_cases z2 : i = a
          · subst z2
            simp (disch := omega) only [up2_ne, up2_p, up2_at, true_or, if_true]
            rw [hO.2 i hi, xor6 (th_lt _ _) hu6]
          · simp (disch := omega) only [up2_ne, z1, z2, or_self, if_false, Nat.xor_zero]
            exact hO.2 i hi
      refine key.trans ?_
      congr 1
      refine tsF_uq (x64 (th_lt _ _) (by split <;> omega)) (fun t ht => ?_)
      rw [show decide ((_ : Int32) = nI i) = decide ((if u.testBit t = true then (if μ.1 87 t = nI a then nI b else nI a) else μ.1 87 t) = nI i) from by congr 1; exact congrArg (· = nI i) (e87 t ht)]
      rw [Nat.testBit_xor, tsF_bit _ _ 6 t ht]
      obtain ⟨j, hj, ej⟩ := hO.1 t ht
      by_cases c : u.testBit t = true
      · have hin : j = a ∨ j = b := by
          have h1 := congrArg (fun z => Nat.testBit z t) hsub
          simp only [Nat.testBit_and, Nat.testBit_or, c, Bool.true_and, tsF_bit _ _ 6 t ht, ej, Bool.or_eq_true, decide_eq_true_eq, nI_eq (show j < 2 ^ 31 by omega) (show a < 2 ^ 31 by omega), nI_eq (show j < 2 ^ 31 by omega) (show b < 2 ^ 31 by omega)] at h1
          exact h1
        rw [if_pos c, ej]
        have n1 : ∀ x y : Nat, x < 4 → y < 4 → (nI x = nI y ↔ x = y) := fun x y hx hy => nI_eq (by omega) (by omega)
        by_cases z1 : i = a
        · subst z1
          simp only [true_or, if_true, c, n1 j i hj hi]
          rcases hin with z | z
          · subst z
            simp only [if_true, decide_true, n1 b j hb hi, Bool.xor_self]
            symm; exact decide_eq_false (fun y => hab y.symm)
          · subst z
            simp only [n1 i i hi hi, if_neg (fun y : j = i => hab y.symm), decide_true]
            rw [decide_eq_false (fun y : j = i => hab y.symm)]; rfl
        · by_cases z2 : i = b
          · subst z2
            simp only [or_true, if_true, c, n1 j i hj hi, n1 j a hj ha]
            rcases hin with z | z
            · subst z
              simp only [if_true, decide_true]
              rw [decide_eq_false (fun y : j = i => hab y)]; rfl
            · subst z
              simp only [if_neg (fun y : j = a => hab y.symm), decide_true, n1 a j ha hj, Bool.xor_self]
              symm; exact decide_eq_false hab
          · simp only [z1, z2, or_self, if_false, Nat.zero_testBit, Bool.xor_false, n1 j i hj hi, n1 j a hj ha]
            rcases hin with z | z
            · subst z
              simp only [if_true, n1 b i hb hi]
              rw [decide_eq_false (fun y : j = i => z1 y.symm), decide_eq_false (fun y : b = i => z2 y.symm)]
            · subst z
              simp only [if_neg (fun y : j = a => hab y.symm), n1 a i ha hi]
              rw [decide_eq_false (fun y : j = i => z2 y.symm), decide_eq_false (fun y : a = i => z1 y.symm)]
      · have cf : u.testBit t = false := by simpa using c
        rw [if_neg c]
        have : (if i = a ∨ i = b then u else 0).testBit t = false := by
          split
          · exact cf
          · exact Nat.zero_testBit t
        rw [this, Bool.xor_false]
  · intro i hi
    have hh := hC i hi
    by_cases z1 : i = b
    · subst z1
      simp (disch := omega) only [up2_ne, sw_ne, up2_at]
      refine ⟨?_, ?_⟩
      · rw [hh.1]
      · exact hg.2.2.2
    · by_cases z2 : i = a
      · subst z2
        simp (disch := omega) only [up2_ne, sw_ne, up2_p, up2_at]
        refine ⟨?_, ?_⟩
        · rw [hh.1]
        · exact hg.2.2.1
      · simp (disch := omega) only [up2_ne, up2_p, sw_ne]
        exact hh
  · refine talk_c ⟨?_, ?_, ?_, ?_, ?_⟩ ⟨?_, ?_, ?_⟩ (fun j h1 h2 => ?_) (fun z => absurd z ?_) rfl hTA
    · simp (disch := omega) only [up2_ne, sw_ne, up2_row]
    · simp (disch := omega) only [up2_ne, sw_ne, up2_row]
    · simp (disch := omega) only [up2_ne, sw_ne, up2_row]
    · simp (disch := omega) only [up2_ne, sw_ne, up2_row]
    · simp (disch := omega) only [up2_ne, sw_ne, up2_row]
    · simp (disch := omega) only [up2_ne, sw_ne, up2_row]
    · simp (disch := omega) only [up2_ne, sw_ne, up2_row]
    · simp (disch := omega) only [up2_ne, sw_ne, up2_row]
    · simp (disch := omega) only [up2_ne, sw_ne, up2_row]
    · simp (disch := omega) only [up2_at]; decide
theorem yP_c {M M' : MM} {a b w : Nat} (ha : a < 4) (hb : b < 4) (h0 : M' 100 = M 100) (h1 : M' 101 = M 101) (h2 : M' 102 = M 102) (h3 : M' 87 = M 87) (h4 : M' 88 = M 88) (h5 : M' 89 = M 89) (h6 : ∀ i, i < 4 → M' (57 + 4 * i) = M (57 + 4 * i) ∧ M' (58 + 4 * i) = M (58 + 4 * i)) : (yP M' a b w ↔ yP M a b w) ∧ yG M' a b w = yG M a b w := by
  have hG : yG M' a b w = yG M a b w := by
    unfold yG gnp
    obtain hd | hd : w % 2 = 0 ∨ w % 2 = 1 := by omega
    · rw [hd]; simp only [if_true, gnd_0]; unfold th wu; rw [h1, h2, h3, (h6 a ha).1]
    · rw [hd]; simp only [gnd_1]; unfold th wu; rw [h1, h2, h3, (h6 b hb).1]
  refine ⟨?_, hG⟩
  unfold yP
  rw [hG]
  unfold goM isOf th wu
  rw [h0, h1, h2, h3, h4, h5, (h6 a ha).2, (h6 b hb).2]
theorem suP_y {μ : Mm} {a b mo w : Nat} {l : Int32} (hT : TK μ a b mo w) : suP μ.1 μ.1 74 (two (th μ.1 a) (th μ.1 b)) (two (56 + 4 * a) (56 + 4 * b)) w l ↔ (0 < w ∧ isOf μ.1 (w - 1)) ∧ goM μ.1 a b (wu μ.1 (w - 1)) (μ.1 102 (w - 1)) ∧ l ≤ yG μ.1 a b w := by
  unfold suP yG
  rw [goB_i hT.2.2.2.2.2.2.1.1 hT.2.2.2.2.2.2.1.2]
theorem J_yes : Jnt mX11_yes mX12_yes [] := by
  intro X μ Q hI k
  by_cases ho : μ.1 86 15 = 1
  · obtain ⟨a, b, mo, w, hT⟩ := TK_of hI ho
    obtain ⟨⟨k0, k1⟩, ⟨ha, hb, hab⟩, ⟨kp1, kp2, kp3, kp4⟩, ⟨km1, km2, km3, km4⟩, ⟨kw1, kw2⟩, kPr, ⟨kc1, kc2⟩, kq, kof⟩ := id hT
    have hh : two a b (w % 2) < 4 := two_lt ha hb
    have eh := two_if (w := w) kp1 kp3
    have lq : μ.1 (55 + 4 * two a b (w % 2)) 2 = μ.1 89 (two a b (w % 2)) := (hI.2.2.1 _ hh).1.1
    have hW := hI.2.2.2.1
    by_cases c : yP μ.1 a b w
    · have cs : suP μ.1 μ.1 74 (two (th μ.1 a) (th μ.1 b)) (two (56 + 4 * a) (56 + 4 * b)) w (μ.1 (55 + 4 * two a b (w % 2)) 2) := (suP_y hT).mpr (by rw [lq]; exact c)
      obtain ⟨⟨c0, c1⟩, c2, c3⟩ := id c
      obtain ⟨m, rfl⟩ : ∃ m, w = m + 1 := ⟨w - 1, by omega⟩
      simp only [Nat.add_sub_cancel] at c1 c2
      obtain ⟨eu, hu6, hpr, -⟩ := kof m (by omega) c1
      have hIy := Inv_agree hI hT c1 rfl rfl c2
      have e76 : μ.1 76 m = nI (wu μ.1 m) := (kq m (by omega)).2.1.trans eu
      have e77 : μ.1 77 m = μ.1 102 m := (kq m (by omega)).2.2
      have r1 : ∀ x, ¬ (x = 73 ∨ (55 ≤ x ∧ x ≤ 67 ∧ (x - 55) % 4 = 0) ∨ x = 75 ∨ x = 76 ∨ x = 77) → yesC μ.1 a b m (wu μ.1 m) (μ.1 102 m) x = μ.1 x := by
        intro x hx
        unfold yesC
        rw [addM_ne (by omega)]
        unfold agM
        simp (disch := omega) only [up2_ne]
      have hPr2 : Pr (yesC μ.1 a b m (wu μ.1 m) (μ.1 102 m), μ.2) 74 (two (th μ.1 a) (th μ.1 b)) (two (56 + 4 * a) (56 + 4 * b)) := Pr_s kPr (r1 74 (by omega)) rfl (fun d hd => by
        obtain rfl | rfl : d = 0 ∨ d = 1 := by omega
        · exact r1 (56 + 4 * a + 2) (by omega)
        · exact r1 (56 + 4 * b + 2) (by omega))
      have g73 : yesC μ.1 a b m (wu μ.1 m) (μ.1 102 m) 73 3 = nI (m + 2) := by unfold yesC addM; simp (disch := omega) only [up2_p, up2_at]
      have g76 : yesC μ.1 a b m (wu μ.1 m) (μ.1 102 m) 76 m = nI (wu μ.1 m) := by unfold yesC addM agM; simp (disch := omega) only [up2_ne, up2_p]; exact e76
      have g77 : yesC μ.1 a b m (wu μ.1 m) (μ.1 102 m) 77 m = μ.1 102 m := by unfold yesC addM agM; simp (disch := omega) only [up2_ne, up2_p]; exact e77
      have gG : gnp (yesC μ.1 a b m (wu μ.1 m) (μ.1 102 m)) (two (th μ.1 a) (th μ.1 b)) (two (56 + 4 * a) (56 + 4 * b)) ((m + 1) % 2) (wu μ.1 m) (μ.1 102 m) = yG μ.1 a b (m + 1) := by
        unfold yG gnp gnd
        simp only [Nat.add_sub_cancel]
        rw [r1 (two (56 + 4 * a) (56 + 4 * b) ((m + 1) % 2) + 1) (by unfold two; split <;> omega)]
      refine wp_aload_n (pc := 0) dX11_yes_0 (by first | rfl | assumption | (repeat first | assumption | rfl | refine aG_n ?_ rfl rfl)) ?_
      refine wp_getR (pc := 1) dX11_yes_1 fl_11_92 (by first | rfl | assumption | exact sh_house (by omega) | exact sh_wish (by omega) | exact sh_wor (by omega) | exact sh_bar (by omega) | exact sh_term (by omega) | exact sh_sheet (by omega) | exact sh_items (by omega) | exact sh_sums (by omega)) rfl ?_
      refine wp_getI (pc := 4) dX11_yes_4 fl_11_209 (by first | rfl | assumption | exact sh_house (by omega) | exact sh_wish (by omega) | exact sh_wor (by omega) | exact sh_bar (by omega) | exact sh_term (by omega) | exact sh_sheet (by omega) | exact sh_items (by omega) | exact sh_sums (by omega)) rfl ?_
      refine wp_istore_n (pc := 7) dX11_yes_7 (by decide) ?_
      refine wp_aload_n (pc := 8) dX11_yes_8 (by first | rfl | assumption | (repeat first | assumption | rfl | refine aG_n ?_ rfl rfl)) ?_
      refine wp_getR (pc := 9) dX11_yes_9 fl_11_92 (by first | rfl | assumption | exact sh_house (by omega) | exact sh_wish (by omega) | exact sh_wor (by omega) | exact sh_bar (by omega) | exact sh_term (by omega) | exact sh_sheet (by omega) | exact sh_items (by omega) | exact sh_sums (by omega)) rfl ?_
      refine wp_cV (pc := 12) dX11_yes_12 lk_11_104 rfl (by decide) rfl (by first | rfl | assumption | exact sh_house (by omega) | exact sh_wish (by omega) | exact sh_wor (by omega) | exact sh_bar (by omega) | exact sh_term (by omega) | exact sh_sheet (by omega) | exact sh_items (by omega) | exact sh_sums (by omega)) rfl rfl (c_X7_isOpen (fun _ => aK_i ?_) (fun q => absurd k1 q))
      refine wp_if_eq (pc := 15) (tgt := 52) dX11_yes_15 rfl (fun q => absurd q (by decide)) (fun _ => ?_)
      refine wp_aload_n (pc := 18) dX11_yes_18 (by first | rfl | assumption | (repeat first | assumption | rfl | refine aG_n ?_ rfl rfl)) ?_
      refine wp_getR (pc := 19) dX11_yes_19 fl_11_92 (by first | rfl | assumption | exact sh_house (by omega) | exact sh_wish (by omega) | exact sh_wor (by omega) | exact sh_bar (by omega) | exact sh_term (by omega) | exact sh_sheet (by omega) | exact sh_items (by omega) | exact sh_sums (by omega)) rfl ?_
      refine wp_aload_n (pc := 22) dX11_yes_22 (by first | rfl | assumption | (repeat first | assumption | rfl | refine aG_n ?_ rfl rfl)) ?_
      refine wp_getR (pc := 23) dX11_yes_23 fl_11_92 (by first | rfl | assumption | exact sh_house (by omega) | exact sh_wish (by omega) | exact sh_wor (by omega) | exact sh_bar (by omega) | exact sh_term (by omega) | exact sh_sheet (by omega) | exact sh_items (by omega) | exact sh_sums (by omega)) rfl ?_
      refine wp_getR (pc := 26) dX11_yes_26 fl_11_199 (by first | rfl | assumption | exact sh_house (by omega) | exact sh_wish (by omega) | exact sh_wor (by omega) | exact sh_bar (by omega) | exact sh_term (by omega) | exact sh_sheet (by omega) | exact sh_items (by omega) | exact sh_sums (by omega)) rfl ?_
      refine wp_iload_n (pc := 29) dX11_yes_29 (by first | rfl | assumption | (repeat first | assumption | rfl | refine aG_n ?_ rfl rfl)) ?_
      refine wp_aload_n (pc := 30) dX11_yes_30 (by first | rfl | assumption | (repeat first | assumption | rfl | refine aG_n ?_ rfl rfl)) ?_
      refine wp_getR (pc := 31) dX11_yes_31 fl_11_11 (by first | rfl | assumption | exact sh_house (by omega) | exact sh_wish (by omega) | exact sh_wor (by omega) | exact sh_bar (by omega) | exact sh_term (by omega) | exact sh_sheet (by omega) | exact sh_items (by omega) | exact sh_sums (by omega)) rfl ?_
      refine wp_aload_n (pc := 34) dX11_yes_34 (by first | rfl | assumption | (repeat first | assumption | rfl | refine aG_n ?_ rfl rfl)) ?_
      refine wp_getR (pc := 35) dX11_yes_35 fl_11_92 (by first | rfl | assumption | exact sh_house (by omega) | exact sh_wish (by omega) | exact sh_wor (by omega) | exact sh_bar (by omega) | exact sh_term (by omega) | exact sh_sheet (by omega) | exact sh_items (by omega) | exact sh_sums (by omega)) rfl ?_
      refine wp_iload_n (pc := 38) dX11_yes_38 (by first | rfl | assumption | (repeat first | assumption | rfl | refine aG_n ?_ rfl rfl)) ?_
      refine wp_cV (pc := 39) dX11_yes_39 lk_11_212 rfl (by decide) rfl (by first | rfl | assumption | exact sh_house (by omega) | exact sh_wish (by omega) | exact sh_wor (by omega) | exact sh_bar (by omega) | exact sh_term (by omega) | exact sh_sheet (by omega) | exact sh_items (by omega) | exact sh_sums (by omega)) rfl rfl ?_
      rw [kw1]
      refine c_X7_partyOf (show m + 1 < 2 ^ 31 by omega) ?_
      rw [eh]
      refine aK_i ?_
      refine wp_aald (pc := 42) dX11_yes_42 (by first | rfl | assumption | exact sh_house (by omega) | exact sh_wish (by omega) | exact sh_wor (by omega) | exact sh_bar (by omega) | exact sh_term (by omega) | exact sh_sheet (by omega) | exact sh_items (by omega) | exact sh_sums (by omega)) (vp_in_nI hh (by decide)) (by decide) (el_house hh) ?_
      refine wp_getI (pc := 43) dX11_yes_43 fl_11_152 (by first | rfl | assumption | exact sh_house (by omega) | exact sh_wish (by omega) | exact sh_wor (by omega) | exact sh_bar (by omega) | exact sh_term (by omega) | exact sh_sheet (by omega) | exact sh_items (by omega) | exact sh_sums (by omega)) rfl ?_
      refine wp_cV (pc := 46) dX11_yes_46 lk_11_227 rfl (by decide) rfl (by first | rfl | assumption | exact sh_house (by omega) | exact sh_wish (by omega) | exact sh_wor (by omega) | exact sh_bar (by omega) | exact sh_term (by omega) | exact sh_sheet (by omega) | exact sh_items (by omega) | exact sh_sums (by omega)) rfl rfl (n_suits (N := μ.1) kPr (by omega) kw1 kq (fun q hq z => ⟨(kof q hq z).1, (kof q hq z).2.1⟩) (Nat.le_refl _) (fun _ => aK_i ?_) (fun q => absurd cs q))
      refine wp_if_ne (pc := 49) (tgt := 56) dX11_yes_49 rfl (fun _ => ?_) (fun q => absurd q (by decide))
      refine wp_aload_n (pc := 56) dX11_yes_56 (by first | rfl | assumption | (repeat first | assumption | rfl | refine aG_n ?_ rfl rfl)) ?_
      refine wp_cV (pc := 57) dX11_yes_57 lk_11_231 rfl (by decide) rfl (by first | rfl | assumption | exact sh_house (by omega) | exact sh_wish (by omega) | exact sh_wor (by omega) | exact sh_bar (by omega) | exact sh_term (by omega) | exact sh_sheet (by omega) | exact sh_items (by omega) | exact sh_sums (by omega)) rfl rfl (c_X11_agree k1 kw1 km1 km4 km3 ha hb hab kp1 kp3 e76 e77 (aK_v ?_))
      refine wp_aload_n (pc := 60) dX11_yes_60 (by first | rfl | assumption | (repeat first | assumption | rfl | refine aG_n ?_ rfl rfl)) ?_
      refine wp_getR (pc := 61) dX11_yes_61 fl_11_92 (by first | rfl | assumption | exact sh_house (by omega) | exact sh_wish (by omega) | exact sh_wor (by omega) | exact sh_bar (by omega) | exact sh_term (by omega) | exact sh_sheet (by omega) | exact sh_items (by omega) | exact sh_sums (by omega)) rfl ?_
      refine wp_getR (pc := 64) dX11_yes_64 fl_11_199 (by first | rfl | assumption | exact sh_house (by omega) | exact sh_wish (by omega) | exact sh_wor (by omega) | exact sh_bar (by omega) | exact sh_term (by omega) | exact sh_sheet (by omega) | exact sh_items (by omega) | exact sh_sums (by omega)) rfl ?_
      refine wp_aload_n (pc := 67) dX11_yes_67 (by first | rfl | assumption | (repeat first | assumption | rfl | refine aG_n ?_ rfl rfl)) ?_
      refine wp_getR (pc := 68) dX11_yes_68 fl_11_92 (by first | rfl | assumption | exact sh_house (by omega) | exact sh_wish (by omega) | exact sh_wor (by omega) | exact sh_bar (by omega) | exact sh_term (by omega) | exact sh_sheet (by omega) | exact sh_items (by omega) | exact sh_sums (by omega)) rfl ?_
      refine wp_iload_n (pc := 71) dX11_yes_71 (by first | rfl | assumption | (repeat first | assumption | rfl | refine aG_n ?_ rfl rfl)) ?_
      refine wp_cV (pc := 72) dX11_yes_72 lk_11_234 rfl (by decide) rfl (by first | rfl | assumption | exact sh_house (by omega) | exact sh_wish (by omega) | exact sh_wor (by omega) | exact sh_bar (by omega) | exact sh_term (by omega) | exact sh_sheet (by omega) | exact sh_items (by omega) | exact sh_sums (by omega)) rfl rfl ?_
      refine wp_iload_n (pc := 0) dX7_sideAt_0 (by first | rfl | assumption | (repeat first | assumption | rfl | refine aG_n ?_ rfl rfl)) ?_
      refine wp_iconst (pc := 1) (v := 1) dX7_sideAt_1 (by decide) ?_
      refine wp_iand (pc := 2) dX7_sideAt_2 ?_
      refine wp_iretK (pc := 3) dX7_sideAt_3 rfl (by first | rfl | decide | assumption) ?_
      refine wp_aload_n (pc := 75) dX11_yes_75 (by first | rfl | assumption | (repeat first | assumption | rfl | refine aG_n ?_ rfl rfl)) ?_
      refine wp_getR (pc := 76) dX11_yes_76 fl_11_92 (by first | rfl | assumption | exact sh_house (by omega) | exact sh_wish (by omega) | exact sh_wor (by omega) | exact sh_bar (by omega) | exact sh_term (by omega) | exact sh_sheet (by omega) | exact sh_items (by omega) | exact sh_sums (by omega)) rfl ?_
      refine wp_iload_n (pc := 79) dX11_yes_79 (by first | rfl | assumption | (repeat first | assumption | rfl | refine aG_n ?_ rfl rfl)) ?_
      refine wp_iconst (pc := 80) (v := 1) dX11_yes_80 (by decide) ?_
      refine wp_isub (pc := 81) dX11_yes_81 ?_
      refine wp_cV (pc := 82) dX11_yes_82 lk_11_237 rfl (by decide) rfl (by first | rfl | assumption | exact sh_house (by omega) | exact sh_wish (by omega) | exact sh_wor (by omega) | exact sh_bar (by omega) | exact sh_term (by omega) | exact sh_sheet (by omega) | exact sh_items (by omega) | exact sh_sums (by omega)) rfl rfl ?_
      rw [nI_pred]
      refine c_X7_setAt (w := m + 2) (by omega) g73 (by omega) ?_
      refine aK_i ?_
      refine wp_aload_n (pc := 85) dX11_yes_85 (by first | rfl | assumption | (repeat first | assumption | rfl | refine aG_n ?_ rfl rfl)) ?_
      refine wp_getR (pc := 86) dX11_yes_86 fl_11_92 (by first | rfl | assumption | exact sh_house (by omega) | exact sh_wish (by omega) | exact sh_wor (by omega) | exact sh_bar (by omega) | exact sh_term (by omega) | exact sh_sheet (by omega) | exact sh_items (by omega) | exact sh_sums (by omega)) rfl ?_
      refine wp_iload_n (pc := 89) dX11_yes_89 (by first | rfl | assumption | (repeat first | assumption | rfl | refine aG_n ?_ rfl rfl)) ?_
      refine wp_iconst (pc := 90) (v := 1) dX11_yes_90 (by decide) ?_
      refine wp_isub (pc := 91) dX11_yes_91 ?_
      refine wp_cV (pc := 92) dX11_yes_92 lk_11_240 rfl (by decide) rfl (by first | rfl | assumption | exact sh_house (by omega) | exact sh_wish (by omega) | exact sh_wor (by omega) | exact sh_bar (by omega) | exact sh_term (by omega) | exact sh_sheet (by omega) | exact sh_items (by omega) | exact sh_sums (by omega)) rfl rfl ?_
      try rw [nI_pred]
      refine c_X7_priceAt (w := m + 2) (by omega) g73 (by omega) ?_
      refine aK_i ?_
      refine wp_cV (pc := 95) dX11_yes_95 lk_11_175 rfl (by decide) rfl (by first | rfl | assumption | exact sh_house (by omega) | exact sh_wish (by omega) | exact sh_wor (by omega) | exact sh_bar (by omega) | exact sh_term (by omega) | exact sh_sheet (by omega) | exact sh_items (by omega) | exact sh_sums (by omega)) rfl rfl ?_
      rw [side_i (show m + 1 < 2 ^ 31 by omega)]
      refine (show WP X mX4_gained 0 (lv_args 0 [.ref 74, .int (nI ((m + 1) % 2)), .int (yesC μ.1 a b m (wu μ.1 m) (μ.1 102 m) 76 m), .int (yesC μ.1 a b m (wu μ.1 m) (μ.1 102 m) 77 m)]) [] (yesC μ.1 a b m (wu μ.1 m) (μ.1 102 m), μ.2) _ from ?_)
      rw [g76, g77]
      refine c_X4_gained hPr2 (Nat.mod_lt _ (by decide)) hu6 ?_
      rw [gG]
      refine aK_i ?_
      refine wp_ireturn (pc := 98) dX11_yes_98 rfl (by first | rfl | decide | assumption) ?_
      refine k _ _ (fun Q' k' => ?_)
      obtain ⟨y1, y2⟩ := yP_c (M := μ.1) (M' := yesC μ.1 a b m (wu μ.1 m) (μ.1 102 m)) (w := m + 1) ha hb (r1 _ (by omega)) (r1 _ (by omega)) (r1 _ (by omega)) (r1 _ (by omega)) (r1 _ (by omega)) (r1 _ (by omega)) (fun i hi => ⟨r1 _ (by omega), r1 _ (by omega)⟩)
      have q15 : yesC μ.1 a b m (wu μ.1 m) (μ.1 102 m) 86 15 = 1 := by rw [r1 86 (by omega)]; exact ho
      have hW2 : I_wish (yesC μ.1 a b m (wu μ.1 m) (μ.1 102 m)) := wish_c ⟨r1 _ (by omega), r1 _ (by omega), r1 _ (by omega), r1 _ (by omega)⟩ (fun i hi => ⟨r1 _ (by omega), r1 _ (by omega), r1 _ (by omega)⟩) hW
      have hof2 : ∀ q, q < m + 1 → isOf (yesC μ.1 a b m (wu μ.1 m) (μ.1 102 m)) q → yesC μ.1 a b m (wu μ.1 m) (μ.1 102 m) 101 q = nI (wu (yesC μ.1 a b m (wu μ.1 m) (μ.1 102 m)) q) ∧ wu (yesC μ.1 a b m (wu μ.1 m) (μ.1 102 m)) q < 64 := by
        intro q hq z
        unfold isOf wu at *
        rw [r1 100 (by omega)] at z
        rw [r1 101 (by omega)]
        exact ⟨(kof q hq z).1, (kof q hq z).2.1⟩
      have hpos : -10000 < yG μ.1 a b (m + 1) := by
        have h1 := (hI.2.2.1 _ hh).1.2.1
        have h2 := c3
        rw [i_le] at h2
        rw [i_lt]
        have : (-10000 : Int32).toInt = -10000 := by decide
        omega
      refine wp_aload_n (pc := 0) dX12_yes_0 (by first | rfl | assumption | (repeat first | assumption | rfl | refine aG_n ?_ rfl rfl)) ?_
      refine wp_cV (pc := 1) dX12_yes_1 lk_12_147 rfl (by decide) rfl (by first | rfl | assumption | exact sh_house (by omega) | exact sh_wish (by omega) | exact sh_wor (by omega) | exact sh_bar (by omega) | exact sh_term (by omega) | exact sh_sheet (by omega) | exact sh_items (by omega) | exact sh_sums (by omega)) rfl rfl (c_X12_isTalking (fun _ => aK_i ?_) (fun q => absurd q15 q))
      refine wp_if_eq (pc := 4) (tgt := 14) dX12_yes_4 rfl (fun q => absurd q (by decide)) (fun _ => ?_)
      refine wp_aload_n (pc := 7) dX12_yes_7 (by first | rfl | assumption | (repeat first | assumption | rfl | refine aG_n ?_ rfl rfl)) ?_
      refine wp_cV (pc := 8) dX12_yes_8 lk_12_272 rfl (by decide) rfl (by first | rfl | assumption | exact sh_house (by omega) | exact sh_wish (by omega) | exact sh_wor (by omega) | exact sh_bar (by omega) | exact sh_term (by omega) | exact sh_sheet (by omega) | exact sh_items (by omega) | exact sh_sums (by omega)) rfl rfl (c_X12_yesGain hW2 ha hb hab (by dsimp only; rw [r1 86 (by omega)]; exact kp2) (by dsimp only; rw [r1 86 (by omega)]; exact kp4) (by dsimp only; rw [r1 86 (by omega)]; exact kw2) (by omega) hof2 (fun _ => aK_i ?_) (fun q => absurd (y1.mpr c) q))
      refine wp_goto (pc := 11) (tgt := 17) dX12_yes_11 rfl ?_
      refine wp_istore_n (pc := 17) dX12_yes_17 (by decide) ?_
      refine wp_iload_n (pc := 18) dX12_yes_18 (by first | rfl | assumption | (repeat first | assumption | rfl | refine aG_n ?_ rfl rfl)) ?_
      refine wp_sipush (pc := 19) (v := -10000) dX12_yes_19 (by decide) ?_
      refine wp_icmp_le (pc := 22) (tgt := 29) dX12_yes_22 rfl (fun q => absurd q (by rw [y2]; exact fun z => i_nle hpos z)) (fun _ => ?_)
      refine wp_aload_n (pc := 25) dX12_yes_25 (by first | rfl | assumption | (repeat first | assumption | rfl | refine aG_n ?_ rfl rfl)) ?_
      refine wp_cV (pc := 26) dX12_yes_26 lk_12_275 rfl (by decide) rfl (by first | rfl | assumption | exact sh_house (by omega) | exact sh_wish (by omega) | exact sh_wor (by omega) | exact sh_bar (by omega) | exact sh_term (by omega) | exact sh_sheet (by omega) | exact sh_items (by omega) | exact sh_sums (by omega)) rfl rfl (c_X12_agree (a := a) (b := b) (mo := mo) (m := m) (u := wu μ.1 m) (p := μ.1 102 m) q15 (by dsimp only; rw [r1 86 (by omega)]; exact kw2) (by dsimp only; rw [r1 86 (by omega)]; exact km2) km4 km3 ha hb hab (by dsimp only; rw [r1 86 (by omega)]; exact kp2) (by dsimp only; rw [r1 86 (by omega)]; exact kp4) (by dsimp only; rw [r1 101 (by omega)]; exact eu) hu6 (by dsimp only; rw [r1 102 (by omega)]) (aK_v ?_))
      refine wp_iload_n (pc := 29) dX12_yes_29 (by first | rfl | assumption | (repeat first | assumption | rfl | refine aG_n ?_ rfl rfl)) ?_
      refine wp_ireturn (pc := 30) dX12_yes_30 rfl (by first | rfl | decide | assumption) ?_
      dsimp only
      rw [y2]
      refine k' _ ?_
      rw [r1 88 (by omega)]
      exact hIy
    · have cs : ¬ suP μ.1 μ.1 74 (two (th μ.1 a) (th μ.1 b)) (two (56 + 4 * a) (56 + 4 * b)) w (μ.1 (55 + 4 * two a b (w % 2)) 2) := fun z => c (by have := (suP_y hT).mp z; rw [lq] at this; exact this)
      refine wp_aload_n (pc := 0) dX11_yes_0 (by first | rfl | assumption | (repeat first | assumption | rfl | refine aG_n ?_ rfl rfl)) ?_
      refine wp_getR (pc := 1) dX11_yes_1 fl_11_92 (by first | rfl | assumption | exact sh_house (by omega) | exact sh_wish (by omega) | exact sh_wor (by omega) | exact sh_bar (by omega) | exact sh_term (by omega) | exact sh_sheet (by omega) | exact sh_items (by omega) | exact sh_sums (by omega)) rfl ?_
      refine wp_getI (pc := 4) dX11_yes_4 fl_11_209 (by first | rfl | assumption | exact sh_house (by omega) | exact sh_wish (by omega) | exact sh_wor (by omega) | exact sh_bar (by omega) | exact sh_term (by omega) | exact sh_sheet (by omega) | exact sh_items (by omega) | exact sh_sums (by omega)) rfl ?_
      refine wp_istore_n (pc := 7) dX11_yes_7 (by decide) ?_
      refine wp_aload_n (pc := 8) dX11_yes_8 (by first | rfl | assumption | (repeat first | assumption | rfl | refine aG_n ?_ rfl rfl)) ?_
      refine wp_getR (pc := 9) dX11_yes_9 fl_11_92 (by first | rfl | assumption | exact sh_house (by omega) | exact sh_wish (by omega) | exact sh_wor (by omega) | exact sh_bar (by omega) | exact sh_term (by omega) | exact sh_sheet (by omega) | exact sh_items (by omega) | exact sh_sums (by omega)) rfl ?_
      refine wp_cV (pc := 12) dX11_yes_12 lk_11_104 rfl (by decide) rfl (by first | rfl | assumption | exact sh_house (by omega) | exact sh_wish (by omega) | exact sh_wor (by omega) | exact sh_bar (by omega) | exact sh_term (by omega) | exact sh_sheet (by omega) | exact sh_items (by omega) | exact sh_sums (by omega)) rfl rfl (c_X7_isOpen (fun _ => aK_i ?_) (fun q => absurd k1 q))
      refine wp_if_eq (pc := 15) (tgt := 52) dX11_yes_15 rfl (fun q => absurd q (by decide)) (fun _ => ?_)
      refine wp_aload_n (pc := 18) dX11_yes_18 (by first | rfl | assumption | (repeat first | assumption | rfl | refine aG_n ?_ rfl rfl)) ?_
      refine wp_getR (pc := 19) dX11_yes_19 fl_11_92 (by first | rfl | assumption | exact sh_house (by omega) | exact sh_wish (by omega) | exact sh_wor (by omega) | exact sh_bar (by omega) | exact sh_term (by omega) | exact sh_sheet (by omega) | exact sh_items (by omega) | exact sh_sums (by omega)) rfl ?_
      refine wp_aload_n (pc := 22) dX11_yes_22 (by first | rfl | assumption | (repeat first | assumption | rfl | refine aG_n ?_ rfl rfl)) ?_
      refine wp_getR (pc := 23) dX11_yes_23 fl_11_92 (by first | rfl | assumption | exact sh_house (by omega) | exact sh_wish (by omega) | exact sh_wor (by omega) | exact sh_bar (by omega) | exact sh_term (by omega) | exact sh_sheet (by omega) | exact sh_items (by omega) | exact sh_sums (by omega)) rfl ?_
      refine wp_getR (pc := 26) dX11_yes_26 fl_11_199 (by first | rfl | assumption | exact sh_house (by omega) | exact sh_wish (by omega) | exact sh_wor (by omega) | exact sh_bar (by omega) | exact sh_term (by omega) | exact sh_sheet (by omega) | exact sh_items (by omega) | exact sh_sums (by omega)) rfl ?_
      refine wp_iload_n (pc := 29) dX11_yes_29 (by first | rfl | assumption | (repeat first | assumption | rfl | refine aG_n ?_ rfl rfl)) ?_
      refine wp_aload_n (pc := 30) dX11_yes_30 (by first | rfl | assumption | (repeat first | assumption | rfl | refine aG_n ?_ rfl rfl)) ?_
      refine wp_getR (pc := 31) dX11_yes_31 fl_11_11 (by first | rfl | assumption | exact sh_house (by omega) | exact sh_wish (by omega) | exact sh_wor (by omega) | exact sh_bar (by omega) | exact sh_term (by omega) | exact sh_sheet (by omega) | exact sh_items (by omega) | exact sh_sums (by omega)) rfl ?_
      refine wp_aload_n (pc := 34) dX11_yes_34 (by first | rfl | assumption | (repeat first | assumption | rfl | refine aG_n ?_ rfl rfl)) ?_
      refine wp_getR (pc := 35) dX11_yes_35 fl_11_92 (by first | rfl | assumption | exact sh_house (by omega) | exact sh_wish (by omega) | exact sh_wor (by omega) | exact sh_bar (by omega) | exact sh_term (by omega) | exact sh_sheet (by omega) | exact sh_items (by omega) | exact sh_sums (by omega)) rfl ?_
      refine wp_iload_n (pc := 38) dX11_yes_38 (by first | rfl | assumption | (repeat first | assumption | rfl | refine aG_n ?_ rfl rfl)) ?_
      refine wp_cV (pc := 39) dX11_yes_39 lk_11_212 rfl (by decide) rfl (by first | rfl | assumption | exact sh_house (by omega) | exact sh_wish (by omega) | exact sh_wor (by omega) | exact sh_bar (by omega) | exact sh_term (by omega) | exact sh_sheet (by omega) | exact sh_items (by omega) | exact sh_sums (by omega)) rfl rfl ?_
      rw [kw1]
      refine c_X7_partyOf (show w < 2 ^ 31 by omega) ?_
      rw [eh]
      refine aK_i ?_
      refine wp_aald (pc := 42) dX11_yes_42 (by first | rfl | assumption | exact sh_house (by omega) | exact sh_wish (by omega) | exact sh_wor (by omega) | exact sh_bar (by omega) | exact sh_term (by omega) | exact sh_sheet (by omega) | exact sh_items (by omega) | exact sh_sums (by omega)) (vp_in_nI hh (by decide)) (by decide) (el_house hh) ?_
      refine wp_getI (pc := 43) dX11_yes_43 fl_11_152 (by first | rfl | assumption | exact sh_house (by omega) | exact sh_wish (by omega) | exact sh_wor (by omega) | exact sh_bar (by omega) | exact sh_term (by omega) | exact sh_sheet (by omega) | exact sh_items (by omega) | exact sh_sums (by omega)) rfl ?_
      refine wp_cV (pc := 46) dX11_yes_46 lk_11_227 rfl (by decide) rfl (by first | rfl | assumption | exact sh_house (by omega) | exact sh_wish (by omega) | exact sh_wor (by omega) | exact sh_bar (by omega) | exact sh_term (by omega) | exact sh_sheet (by omega) | exact sh_items (by omega) | exact sh_sums (by omega)) rfl rfl (n_suits (N := μ.1) kPr (by omega) kw1 kq (fun q hq z => ⟨(kof q hq z).1, (kof q hq z).2.1⟩) (Nat.le_refl _) (fun q => absurd q cs) (fun _ => aK_i ?_))
      refine wp_if_ne (pc := 49) (tgt := 56) dX11_yes_49 rfl (fun q => absurd rfl q) (fun _ => ?_)
      refine wp_sipush (pc := 52) (v := -10002) dX11_yes_52 (by decide) ?_
      refine wp_ireturn (pc := 55) dX11_yes_55 rfl (by first | rfl | decide | assumption) ?_
      refine k _ _ (fun Q' k' => ?_)
      refine wp_aload_n (pc := 0) dX12_yes_0 (by first | rfl | assumption | (repeat first | assumption | rfl | refine aG_n ?_ rfl rfl)) ?_
      refine wp_cV (pc := 1) dX12_yes_1 lk_12_147 rfl (by decide) rfl (by first | rfl | assumption | exact sh_house (by omega) | exact sh_wish (by omega) | exact sh_wor (by omega) | exact sh_bar (by omega) | exact sh_term (by omega) | exact sh_sheet (by omega) | exact sh_items (by omega) | exact sh_sums (by omega)) rfl rfl (c_X12_isTalking (fun _ => aK_i ?_) (fun q => absurd ho q))
      refine wp_if_eq (pc := 4) (tgt := 14) dX12_yes_4 rfl (fun q => absurd q (by decide)) (fun _ => ?_)
      refine wp_aload_n (pc := 7) dX12_yes_7 (by first | rfl | assumption | (repeat first | assumption | rfl | refine aG_n ?_ rfl rfl)) ?_
      refine wp_cV (pc := 8) dX12_yes_8 lk_12_272 rfl (by decide) rfl (by first | rfl | assumption | exact sh_house (by omega) | exact sh_wish (by omega) | exact sh_wor (by omega) | exact sh_bar (by omega) | exact sh_term (by omega) | exact sh_sheet (by omega) | exact sh_items (by omega) | exact sh_sums (by omega)) rfl rfl (c_X12_yesGain hW ha hb hab kp2 kp4 kw2 (by omega) (fun q hq z => ⟨(kof q hq z).1, (kof q hq z).2.1⟩) (fun q => absurd q c) (fun _ => aK_i ?_))
      refine wp_goto (pc := 11) (tgt := 17) dX12_yes_11 rfl ?_
      refine wp_istore_n (pc := 17) dX12_yes_17 (by decide) ?_
      refine wp_iload_n (pc := 18) dX12_yes_18 (by first | rfl | assumption | (repeat first | assumption | rfl | refine aG_n ?_ rfl rfl)) ?_
      refine wp_sipush (pc := 19) (v := -10000) dX12_yes_19 (by decide) ?_
      refine wp_icmp_le (pc := 22) (tgt := 29) dX12_yes_22 rfl (fun _ => ?_) (fun q => absurd (by decide) q)
      refine wp_iload_n (pc := 29) dX12_yes_29 (by first | rfl | assumption | (repeat first | assumption | rfl | refine aG_n ?_ rfl rfl)) ?_
      refine wp_ireturn (pc := 30) dX12_yes_30 rfl (by first | rfl | decide | assumption) ?_
      exact k' _ hI
  · have hc : ¬ μ.1 73 0 = 1 := fun z => ho (hI.2.2.2.2.2.1.1.symm.trans z)
    refine wp_aload_n (pc := 0) dX11_yes_0 (by first | rfl | assumption | (repeat first | assumption | rfl | refine aG_n ?_ rfl rfl)) ?_
    refine wp_getR (pc := 1) dX11_yes_1 fl_11_92 (by first | rfl | assumption | exact sh_house (by omega) | exact sh_wish (by omega) | exact sh_wor (by omega) | exact sh_bar (by omega) | exact sh_term (by omega) | exact sh_sheet (by omega) | exact sh_items (by omega) | exact sh_sums (by omega)) rfl ?_
    refine wp_getI (pc := 4) dX11_yes_4 fl_11_209 (by first | rfl | assumption | exact sh_house (by omega) | exact sh_wish (by omega) | exact sh_wor (by omega) | exact sh_bar (by omega) | exact sh_term (by omega) | exact sh_sheet (by omega) | exact sh_items (by omega) | exact sh_sums (by omega)) rfl ?_
    refine wp_istore_n (pc := 7) dX11_yes_7 (by decide) ?_
    refine wp_aload_n (pc := 8) dX11_yes_8 (by first | rfl | assumption | (repeat first | assumption | rfl | refine aG_n ?_ rfl rfl)) ?_
    refine wp_getR (pc := 9) dX11_yes_9 fl_11_92 (by first | rfl | assumption | exact sh_house (by omega) | exact sh_wish (by omega) | exact sh_wor (by omega) | exact sh_bar (by omega) | exact sh_term (by omega) | exact sh_sheet (by omega) | exact sh_items (by omega) | exact sh_sums (by omega)) rfl ?_
    refine wp_cV (pc := 12) dX11_yes_12 lk_11_104 rfl (by decide) rfl (by first | rfl | assumption | exact sh_house (by omega) | exact sh_wish (by omega) | exact sh_wor (by omega) | exact sh_bar (by omega) | exact sh_term (by omega) | exact sh_sheet (by omega) | exact sh_items (by omega) | exact sh_sums (by omega)) rfl rfl (c_X7_isOpen (fun q => absurd q hc) (fun _ => aK_i ?_))
    refine wp_if_eq (pc := 15) (tgt := 52) dX11_yes_15 rfl (fun _ => ?_) (fun q => absurd q (by decide))
    refine wp_sipush (pc := 52) (v := -10002) dX11_yes_52 (by decide) ?_
    refine wp_ireturn (pc := 55) dX11_yes_55 rfl (by first | rfl | decide | assumption) ?_
    refine k _ _ (fun Q' k' => ?_)
    refine wp_aload_n (pc := 0) dX12_yes_0 (by first | rfl | assumption | (repeat first | assumption | rfl | refine aG_n ?_ rfl rfl)) ?_
    refine wp_cV (pc := 1) dX12_yes_1 lk_12_147 rfl (by decide) rfl (by first | rfl | assumption | exact sh_house (by omega) | exact sh_wish (by omega) | exact sh_wor (by omega) | exact sh_bar (by omega) | exact sh_term (by omega) | exact sh_sheet (by omega) | exact sh_items (by omega) | exact sh_sums (by omega)) rfl rfl (c_X12_isTalking (fun q => absurd q ho) (fun _ => aK_i ?_))
    refine wp_if_eq (pc := 4) (tgt := 14) dX12_yes_4 rfl (fun _ => ?_) (fun q => absurd q (by decide))
    refine wp_sipush (pc := 14) (v := -10002) dX12_yes_14 (by decide) ?_
    refine wp_istore_n (pc := 17) dX12_yes_17 (by decide) ?_
    refine wp_iload_n (pc := 18) dX12_yes_18 (by first | rfl | assumption | (repeat first | assumption | rfl | refine aG_n ?_ rfl rfl)) ?_
    refine wp_sipush (pc := 19) (v := -10000) dX12_yes_19 (by decide) ?_
    refine wp_icmp_le (pc := 22) (tgt := 29) dX12_yes_22 rfl (fun _ => ?_) (fun q => absurd q (by decide))
    refine wp_iload_n (pc := 29) dX12_yes_29 (by first | rfl | assumption | (repeat first | assumption | rfl | refine aG_n ?_ rfl rfl)) ?_
    refine wp_ireturn (pc := 30) dX12_yes_30 rfl (by first | rfl | decide | assumption) ?_
    exact k' _ hI

/-! a MACHINE speaks -/
def mg (A N : MM) : MM := fun c => if c < 86 then A c else N c
theorem mg_ap (A N : MM) (x y : Nat) : mg A N x y = if x < 86 then A x y else N x y := by unfold mg; split <;> rfl
section MG
variable {A N : MM} {c j : Nat} {v : Int32}
theorem mg_lo (h : c < 86) : mg A N c = A c := if_pos h
theorem mg_hi (h : 86 ≤ c) : mg A N c = N c := if_neg (by omega)
theorem mg_up_lo (h : c < 86) : mg (up2 A c j v) N = up2 (mg A N) c j v := by
  funext x y
  rw [mg_ap]
  unfold up2
  by_cases e : x = c ∧ y = j
  · rw [if_pos e, if_pos e, if_pos (by omega)]
  · rw [if_neg e, if_neg e, mg_ap]
theorem mg_up_hi (h : 86 ≤ c) : mg A (up2 N c j v) = up2 (mg A N) c j v := by
  funext x y
  rw [mg_ap]
  unfold up2
  by_cases e : x = c ∧ y = j
  · rw [if_pos e, if_pos e, if_neg (by omega)]
  · rw [if_neg e, if_neg e, mg_ap]
theorem mg_sw {a b u t : Nat} : mg A (sw87 N a b u t) = sw87 (mg A N) a b u t := by
  funext x y
  have h87 : mg A N 87 = N 87 := mg_hi (by omega)
  rw [mg_ap]
  unfold sw87
  rw [h87, mg_ap]
  by_cases e : x = 87 ∧ y < t ∧ u.testBit y = true
  · rw [if_pos e, if_pos e, if_neg (by omega)]
  · rw [if_neg e, if_neg e]
theorem mg_self : mg N N = N := by
  funext x; unfold mg; split <;> rfl
end MG
theorem rkF_ok (ok : Nat → Bool) (w : Nat → Int32) : ∀ s j, j < (rkF ok w s).2 → ok ((rkF ok w s).1 j) = true
  | 0, j, hj => absurd hj (by simp [rkF])
  | s + 1, j, hj => by
    have ih := rkF_ok ok w s
    unfold rkF at hj ⊢
    by_cases c : ok s = true
    · rw [if_pos c] at hj ⊢
      have hp := po_le w (rkF ok w s).1 s (rkF ok w s).2
      have hj' : j < (rkF ok w s).2 + 1 := hj
      show ok (if j < po w (rkF ok w s).1 s (rkF ok w s).2 then (rkF ok w s).1 j else if j = po w (rkF ok w s).1 s (rkF ok w s).2 then s else (rkF ok w s).1 (j - 1)) = true
      split
      · exact ih j (by omega)
      · split
        · exact c
        · exact ih (j - 1) (by omega)
    · rw [if_neg c] at hj ⊢
      exact ih j hj
theorem chR_3 {Y O : Prop} {q : (Nat → Nat) × Nat} {kk : Nat} {pf : Nat → Int32} {kd st pr : Int32} (h : chR Y O q kk pf kd st pr) (h3 : kd = 3) : Y := by
  rcases h with ⟨y, -⟩ | ⟨-, -, rfl, -⟩ | ⟨-, -, -, o, -⟩
  · exact y
  · exact absurd h3 (by decide)
  · rcases o with ⟨-, rfl⟩ | ⟨-, rfl⟩
    · exact absurd h3 (by decide)
    · exact absurd h3 (by decide)
theorem chR_n {Y O : Prop} {q : (Nat → Nat) × Nat} {kk : Nat} {pf : Nat → Int32} {kd st pr : Int32} (h : chR Y O q kk pf kd st pr) (h3 : ¬ kd = 3) : (kd = 4 ∧ st = 0 ∧ pr = 0) ∨ (¬ q.2 = 0 ∧ inR (pf (q.1 (kk % q.2))) (-999) 999 ∧ ((O ∧ kd = 2) ∨ (¬ O ∧ kd = 1)) ∧ st = nI (q.1 (kk % q.2)) ∧ pr = pf (q.1 (kk % q.2))) := by
  rcases h with ⟨-, z, -⟩ | ⟨-, -, h⟩ | ⟨-, h⟩
  · exact absurd z h3
  · exact Or.inl h
  · exact Or.inr h
theorem TK_pool {μ : Mm} {a b mo w : Nat} (hI : Inv μ) (hT : TK μ a b mo w) : μ.1 86 23 = nI (th μ.1 a) ∧ μ.1 86 24 = nI (th μ.1 b) := by
  obtain ⟨⟨k0, k1⟩, ⟨ha, hb, hab⟩, ⟨kp1, kp2, kp3, kp4⟩, -⟩ := hT
  obtain ⟨t1, t2, t3, t4, w', hw, t6, t7, t8⟩ := hI.2.2.2.2.2.1
  obtain ⟨a', b', mo', ⟨ha', hb', -⟩, ⟨-, d2, -, d4⟩, -, -, -, -, -, -, d9, -⟩ := t8 (by rw [k0]; decide)
  obtain rfl : a' = a := (nI_eq (by omega) (by omega)).mp (d2.symm.trans kp2)
  obtain rfl : b' = b := (nI_eq (by omega) (by omega)).mp (d4.symm.trans kp4)
  exact ⟨(d9 k0).1, (d9 k0).2.1⟩
def pfM (M : MM) (h d : Nat) (lv : Int32) : Nat → Int32 := fun s => if d = 0 then (M (57 + 4 * h) (th M h ^^^ s) - M (57 + 4 * h) (th M h)) - lv else lv - (M (57 + 4 * h) (th M h ^^^ s) - M (57 + 4 * h) (th M h))
def lvM (M : MM) (a b w : Nat) : Int32 := lvV (M 90 (two a b (w % 2))) (M 91 (two a b (w % 2))) (M 89 (two a b (w % 2))) (w / 2)
def chS (M : MM) (a b w : Nat) (kd st pr : Int32) : Prop := chR (yP M a b w ∧ lvM M a b w ≤ yG M a b w) (0 < w ∧ isOf M (w - 1)) (rkF (okM M a b (two a b (w % 2))) (wM M (two a b (w % 2))) 64) (w / 2) (pfM M (two a b (w % 2)) (w % 2) (lvM M a b w)) kd st pr
theorem chR_c {Y Y' O O' : Prop} {q q' : (Nat → Nat) × Nat} {kk : Nat} {pf pf' : Nat → Int32} {kd st pr : Int32} (h1 : Y' ↔ Y) (h2 : O' ↔ O) (h3 : q' = q) (h4 : ∀ s, pf' s = pf s) (h : chR Y' O' q' kk pf' kd st pr) : chR Y O q kk pf kd st pr := by
  have e1 := propext h1
  have e2 := propext h2
  have e4 := funext h4
  subst e1; subst e2; subst h3; subst e4
  exact h
theorem chS_c {M M' : MM} {a b w : Nat} {kd st pr : Int32} (ha : a < 4) (hb : b < 4) (hr : ∀ c, (87 ≤ c ∧ c ≤ 91) ∨ (100 ≤ c ∧ c ≤ 102) → M' c = M c) (hw : ∀ i, i < 4 → M' (57 + 4 * i) = M (57 + 4 * i) ∧ M' (58 + 4 * i) = M (58 + 4 * i)) (h : chS M' a b w kd st pr) : chS M a b w kd st pr := by
  have hh : two a b (w % 2) < 4 := two_lt ha hb
  have e1 := yP_c (M := M) (M' := M') (w := w) ha hb (hr _ (by omega)) (hr _ (by omega)) (hr _ (by omega)) (hr _ (by omega)) (hr _ (by omega)) (hr _ (by omega)) hw
  have e2 : lvM M' a b w = lvM M a b w := by unfold lvM; rw [hr 89 (by omega), hr 90 (by omega), hr 91 (by omega)]
  have eth : ∀ i, th M' i = th M i := fun i => by unfold th; rw [hr 87 (by omega)]
  refine chR_c ?_ ?_ (rkF_c 64 (fun x hx => ⟨?_, ?_⟩)) (fun s => ?_) h
  · rw [e1.1, e1.2, e2]
  · unfold isOf; rw [hr 100 (by omega)]
  · unfold okM; rw [eth, eth, eth, (hw _ hh).2]
  · unfold wM; rw [eth, (hw _ hh).1]
  · unfold pfM; rw [eth, (hw _ hh).1, e2]
/-- the model's memory behind a word -/
def nxN (N : MM) (a b mo w : Nat) (kd st pr : Int32) : MM := if kd = 3 then yesM N N a b (w - 1) (wu N (w - 1)) (N 102 (w - 1)) else sayM N w kd st pr (zOf kd w mo)
theorem TK_2 {M M' : MM} {R : Nat → Nat → Nat} {a b mo w : Nat} (h : TK (M, R) a b mo w) (hc : ∀ c, c ≠ 29 → c ≠ 30 → M' c = M c) : TK (M', R) a b mo w := by
  obtain ⟨t1, ⟨ha, hb, hab⟩, t3, t4, t5, t6, t7, t8, t9⟩ := h
  have eth : ∀ i, th M' i = th M i := fun i => by unfold th; rw [hc 87 (by omega) (by omega)]
  have e1 := hc 86 (by omega) (by omega)
  have e2 := hc 73 (by omega) (by omega)
  refine ⟨?_, ⟨ha, hb, hab⟩, ?_, ?_, ?_, ?_, ?_, fun q hq => ?_, fun q hq hof => ?_⟩
  · dsimp only at t1 ⊢; rw [e1, e2]; exact t1
  · dsimp only at t3 ⊢; rw [e1, e2]; exact t3
  · dsimp only at t4 ⊢; rw [e1, e2]; exact t4
  · dsimp only at t5 ⊢; rw [e1, e2]; exact t5
  · dsimp only
    rw [eth, eth]
    refine Pr_s t6 (hc 74 (by omega) (by omega)) rfl (fun d hd => hc _ ?_ ?_)
    · unfold two; split <;> omega
    · unfold two; split <;> omega
  · dsimp only at t7 ⊢; rw [hc 74 (by omega) (by omega), hc 88 (by omega) (by omega)]; exact t7
  · dsimp only; rw [hc 75 (by omega) (by omega), hc 76 (by omega) (by omega), hc 77 (by omega) (by omega), hc 100 (by omega) (by omega), hc 101 (by omega) (by omega), hc 102 (by omega) (by omega)]; exact t8 q hq
  · unfold isOf wu at *
    dsimp only at *
    rw [hc 100 (by omega) (by omega)] at hof
    rw [hc 101 (by omega) (by omega), hc 102 (by omega) (by omega), eth, eth]
    exact t9 q hq hof
/-- what a word of a machine leaves of the class's cells -/
def spC (A A' : MM) : Prop := (∀ c, 86 ≤ c → A' c = A c) ∧ ∀ c, 11 ≤ c → c ≤ 74 → c ≠ 29 → c ≠ 30 → c ≠ 73 → (55 ≤ c → ¬ (c - 55) % 4 = 0 ∨ 71 ≤ c) → A' c = A c
theorem i_tr {x y z : Int32} (h1 : x ≤ y) (h2 : y ≤ z) : x ≤ z := by rw [i_le] at *; omega
section SPEAK
variable {X : aX} {μ : Mm} {Q : Option Value → Mm → Prop} {N : MM} {a b mo w : Nat}
theorem c_speak (hI : Inv (mg μ.1 N, μ.2)) (hT : TK (mg μ.1 N, μ.2) a b mo w) (k : ∀ μ' kd st pr, chS (mg μ.1 N) a b w kd st pr → spC μ.1 μ'.1 → μ'.2 = μ.2 → Inv (mg μ'.1 (nxN N a b mo w kd st pr), μ'.2) → (kd = 3 → 0 < w ∧ isOf N (w - 1)) → Q (some (.int kd)) μ') : WP X mX11_letMachineSpeak 0 (lv_args 0 [.ref 0]) [] μ Q := by
  obtain ⟨⟨k0, k1⟩, ⟨ha, hb, hab⟩, ⟨kp1, kp2, kp3, kp4⟩, ⟨km1, km2, km3, km4⟩, ⟨kw1, kw2⟩, kPr, ⟨kc1, kc2⟩, kq, kof⟩ := id hT
  have hd2 : w % 2 < 2 := Nat.mod_lt _ (by decide)
  have hh : two a b (w % 2) < 4 := two_lt ha hb
  have l73 : mg μ.1 N 73 = μ.1 73 := mg_lo (by omega)
  dsimp only at k0 k1 kp1 kp2 kp3 kp4 km1 km2 kw1 kw2 kc1 kc2 kq kof
  rw [l73] at k1 kp1 kp3 km1 kw1
  have eh := two_if (w := w) kp1 kp3
  have e100 : mg μ.1 N 100 = N 100 := mg_hi (by omega)
  have e101 : mg μ.1 N 101 = N 101 := mg_hi (by omega)
  have e102 : mg μ.1 N 102 = N 102 := mg_hi (by omega)
  have hkN : ∀ q, q < 20 → μ.1 75 q = N 100 q ∧ μ.1 76 q = N 101 q ∧ μ.1 77 q = N 102 q := fun q hq => by
    have := kq q hq
    rw [e100, e101, e102, mg_lo (by omega), mg_lo (by omega), mg_lo (by omega)] at this
    exact this
  have hofN : ∀ q, q < w → isOf N q → N 101 q = nI (wu N q) ∧ wu N q < 64 := fun q hq z => by
    unfold isOf wu at *
    rw [e100, e101] at kof
    exact ⟨(kof q hq z).1, (kof q hq z).2.1⟩
  have hPr : Pr μ 74 (two (th (mg μ.1 N) a) (th (mg μ.1 N) b)) (two (56 + 4 * a) (56 + 4 * b)) := by
    refine Pr_s kPr (mg_lo (N := N) (by omega)).symm rfl (fun d hd => (mg_lo (N := N) ?_).symm)
    unfold two; split <;> omega
  have hNN : PrN 74 (two (56 + 4 * a) (56 + 4 * b)) := ⟨by decide, fun d hd => by unfold two; split <;> omega⟩
  have hlev := hI.2.2.1 _ hh
  refine wp_aload_n (pc := 0) dX11_letMachineSpeak_0 (by first | rfl | assumption | (repeat first | assumption | rfl | refine aG_n ?_ rfl rfl)) ?_
  refine wp_getR (pc := 1) dX11_letMachineSpeak_1 fl_11_92 (by first | rfl | assumption | exact sh_house (by omega) | exact sh_wish (by omega) | exact sh_wor (by omega) | exact sh_bar (by omega) | exact sh_term (by omega) | exact sh_sheet (by omega) | exact sh_items (by omega) | exact sh_sums (by omega)) rfl ?_
  refine wp_getI (pc := 4) dX11_letMachineSpeak_4 fl_11_209 (by first | rfl | assumption | exact sh_house (by omega) | exact sh_wish (by omega) | exact sh_wor (by omega) | exact sh_bar (by omega) | exact sh_term (by omega) | exact sh_sheet (by omega) | exact sh_items (by omega) | exact sh_sums (by omega)) rfl ?_
  refine wp_istore_n (pc := 7) dX11_letMachineSpeak_7 (by decide) ?_
  refine wp_aload_n (pc := 8) dX11_letMachineSpeak_8 (by first | rfl | assumption | (repeat first | assumption | rfl | refine aG_n ?_ rfl rfl)) ?_
  refine wp_getR (pc := 9) dX11_letMachineSpeak_9 fl_11_46 (by first | rfl | assumption | exact sh_house (by omega) | exact sh_wish (by omega) | exact sh_wor (by omega) | exact sh_bar (by omega) | exact sh_term (by omega) | exact sh_sheet (by omega) | exact sh_items (by omega) | exact sh_sums (by omega)) rfl ?_
  refine wp_aload_n (pc := 12) dX11_letMachineSpeak_12 (by first | rfl | assumption | (repeat first | assumption | rfl | refine aG_n ?_ rfl rfl)) ?_
  refine wp_getR (pc := 13) dX11_letMachineSpeak_13 fl_11_92 (by first | rfl | assumption | exact sh_house (by omega) | exact sh_wish (by omega) | exact sh_wor (by omega) | exact sh_bar (by omega) | exact sh_term (by omega) | exact sh_sheet (by omega) | exact sh_items (by omega) | exact sh_sums (by omega)) rfl ?_
  refine wp_getR (pc := 16) dX11_letMachineSpeak_16 fl_11_199 (by first | rfl | assumption | exact sh_house (by omega) | exact sh_wish (by omega) | exact sh_wor (by omega) | exact sh_bar (by omega) | exact sh_term (by omega) | exact sh_sheet (by omega) | exact sh_items (by omega) | exact sh_sums (by omega)) rfl ?_
  refine wp_aload_n (pc := 19) dX11_letMachineSpeak_19 (by first | rfl | assumption | (repeat first | assumption | rfl | refine aG_n ?_ rfl rfl)) ?_
  refine wp_getR (pc := 20) dX11_letMachineSpeak_20 fl_11_92 (by first | rfl | assumption | exact sh_house (by omega) | exact sh_wish (by omega) | exact sh_wor (by omega) | exact sh_bar (by omega) | exact sh_term (by omega) | exact sh_sheet (by omega) | exact sh_items (by omega) | exact sh_sums (by omega)) rfl ?_
  refine wp_iload_n (pc := 23) dX11_letMachineSpeak_23 (by first | rfl | assumption | (repeat first | assumption | rfl | refine aG_n ?_ rfl rfl)) ?_
  refine wp_cV (pc := 24) dX11_letMachineSpeak_24 lk_11_234 rfl (by decide) rfl (by first | rfl | assumption | exact sh_house (by omega) | exact sh_wish (by omega) | exact sh_wor (by omega) | exact sh_bar (by omega) | exact sh_term (by omega) | exact sh_sheet (by omega) | exact sh_items (by omega) | exact sh_sums (by omega)) rfl rfl ?_
  refine wp_iload_n (pc := 0) dX7_sideAt_0 (by first | rfl | assumption | (repeat first | assumption | rfl | refine aG_n ?_ rfl rfl)) ?_
  refine wp_iconst (pc := 1) (v := 1) dX7_sideAt_1 (by decide) ?_
  refine wp_iand (pc := 2) dX7_sideAt_2 ?_
  refine wp_iretK (pc := 3) dX7_sideAt_3 rfl (by first | rfl | decide | assumption) ?_
  refine wp_cV (pc := 27) dX11_letMachineSpeak_27 lk_11_395 rfl (by decide) rfl (by first | rfl | assumption | exact sh_house (by omega) | exact sh_wish (by omega) | exact sh_wor (by omega) | exact sh_bar (by omega) | exact sh_term (by omega) | exact sh_sheet (by omega) | exact sh_items (by omega) | exact sh_sums (by omega)) rfl rfl ?_
  rw [kw1, side_i (by omega)]
  refine c_X3_rank hPr hNN hd2 (fun μ1 o1 c29 c30 => aK_v ?_)
  refine wp_aload_n (pc := 30) dX11_letMachineSpeak_30 (by first | rfl | assumption | (repeat first | assumption | rfl | refine aG_n ?_ rfl rfl)) ?_
  refine wp_getR (pc := 31) dX11_letMachineSpeak_31 fl_11_46 (by first | rfl | assumption | exact sh_house (by omega) | exact sh_wish (by omega) | exact sh_wor (by omega) | exact sh_bar (by omega) | exact sh_term (by omega) | exact sh_sheet (by omega) | exact sh_items (by omega) | exact sh_sums (by omega)) rfl ?_
  refine wp_aload_n (pc := 34) dX11_letMachineSpeak_34 (by first | rfl | assumption | (repeat first | assumption | rfl | refine aG_n ?_ rfl rfl)) ?_
  refine wp_getR (pc := 35) dX11_letMachineSpeak_35 fl_11_92 (by first | rfl | assumption | exact sh_house (by omega) | exact sh_wish (by omega) | exact sh_wor (by omega) | exact sh_bar (by omega) | exact sh_term (by omega) | exact sh_sheet (by omega) | exact sh_items (by omega) | exact sh_sums (by omega)) rfl ?_
  refine wp_getR (pc := 38) dX11_letMachineSpeak_38 fl_11_199 (by first | rfl | assumption | exact sh_house (by omega) | exact sh_wish (by omega) | exact sh_wor (by omega) | exact sh_bar (by omega) | exact sh_term (by omega) | exact sh_sheet (by omega) | exact sh_items (by omega) | exact sh_sums (by omega)) rfl ?_
  refine wp_aload_n (pc := 41) dX11_letMachineSpeak_41 (by first | rfl | assumption | (repeat first | assumption | rfl | refine aG_n ?_ rfl rfl)) ?_
  refine wp_getR (pc := 42) dX11_letMachineSpeak_42 fl_11_11 (by first | rfl | assumption | exact sh_house (by omega) | exact sh_wish (by omega) | exact sh_wor (by omega) | exact sh_bar (by omega) | exact sh_term (by omega) | exact sh_sheet (by omega) | exact sh_items (by omega) | exact sh_sums (by omega)) rfl ?_
  refine wp_aload_n (pc := 45) dX11_letMachineSpeak_45 (by first | rfl | assumption | (repeat first | assumption | rfl | refine aG_n ?_ rfl rfl)) ?_
  refine wp_getR (pc := 46) dX11_letMachineSpeak_46 fl_11_92 (by first | rfl | assumption | exact sh_house (by omega) | exact sh_wish (by omega) | exact sh_wor (by omega) | exact sh_bar (by omega) | exact sh_term (by omega) | exact sh_sheet (by omega) | exact sh_items (by omega) | exact sh_sums (by omega)) rfl ?_
  refine wp_iload_n (pc := 49) dX11_letMachineSpeak_49 (by first | rfl | assumption | (repeat first | assumption | rfl | refine aG_n ?_ rfl rfl)) ?_
  refine wp_cV (pc := 50) dX11_letMachineSpeak_50 lk_11_212 rfl (by decide) rfl (by first | rfl | assumption | exact sh_house (by omega) | exact sh_wish (by omega) | exact sh_wor (by omega) | exact sh_bar (by omega) | exact sh_term (by omega) | exact sh_sheet (by omega) | exact sh_items (by omega) | exact sh_sums (by omega)) rfl rfl ?_
  refine c_X7_partyOf (n := w) (by omega) ?_
  rw [show μ1.1 73 = μ.1 73 from o1.1 73 (by omega) (by omega), eh]
  refine aK_i ?_
  refine wp_aald (pc := 53) dX11_letMachineSpeak_53 (by first | rfl | assumption | exact sh_house (by omega) | exact sh_wish (by omega) | exact sh_wor (by omega) | exact sh_bar (by omega) | exact sh_term (by omega) | exact sh_sheet (by omega) | exact sh_items (by omega) | exact sh_sums (by omega)) (vp_in_nI hh (by decide)) (by decide) (el_house hh) ?_
  refine wp_aload_n (pc := 54) dX11_letMachineSpeak_54 (by first | rfl | assumption | (repeat first | assumption | rfl | refine aG_n ?_ rfl rfl)) ?_
  refine wp_getR (pc := 55) dX11_letMachineSpeak_55 fl_11_92 (by first | rfl | assumption | exact sh_house (by omega) | exact sh_wish (by omega) | exact sh_wor (by omega) | exact sh_bar (by omega) | exact sh_term (by omega) | exact sh_sheet (by omega) | exact sh_items (by omega) | exact sh_sums (by omega)) rfl ?_
  refine wp_iload_n (pc := 58) dX11_letMachineSpeak_58 (by first | rfl | assumption | (repeat first | assumption | rfl | refine aG_n ?_ rfl rfl)) ?_
  refine wp_cV (pc := 59) dX11_letMachineSpeak_59 lk_11_399 rfl (by decide) rfl (by first | rfl | assumption | exact sh_house (by omega) | exact sh_wish (by omega) | exact sh_wor (by omega) | exact sh_bar (by omega) | exact sh_term (by omega) | exact sh_sheet (by omega) | exact sh_items (by omega) | exact sh_sums (by omega)) rfl rfl ?_
  obtain ⟨rk1, rk2⟩ := rkF_p (okC μ.1 (two (th (mg μ.1 N) a) (th (mg μ.1 N) b)) (two (56 + 4 * a) (56 + 4 * b)) (w % 2)) (wC μ.1 (two (th (mg μ.1 N) a) (th (mg μ.1 N) b)) (two (56 + 4 * a) (56 + 4 * b)) (w % 2)) 64
  refine c_X3_choose (N := N) hh (Pr_2 hPr hNN o1) hNN (show w ≤ 20 by omega) (by rw [o1.1 73 (by omega) (by omega)]; exact kw1) (fun q hq => by rw [o1.1 75 (by omega) (by omega), o1.1 76 (by omega) (by omega), o1.1 77 (by omega) (by omega)]; exact hkN q hq) hofN (Nat.le_refl _) rk1 rk2 c29 c30 (fun μ2 kd st pr s2 r2 c2 e0 e1 e2 hR => aK_v ?_)
  skip
  have s12 : ∀ c, c ≠ 29 → c ≠ 30 → μ2.1 c = μ.1 c := fun c h1 h2 => (s2 c h1).trans (o1.1 c h1 h2)
  have r12 : μ2.2 = μ.2 := r2.trans o1.2
  have m12 : ∀ c, c ≠ 29 → c ≠ 30 → mg μ2.1 N c = mg μ.1 N c := fun c h1 h2 => by
    unfold mg; split
    · exact s12 c h1 h2
    · rfl
  have hI2 : Inv (mg μ2.1 N, μ2.2) := Inv_s hI (fun c j hc => by
    unfold scr at hc
    rw [m12 c (by omega) (by omega)]) (by rw [r12])
  have hT2 : TK (mg μ2.1 N, μ2.2) a b mo w := by rw [r12]; exact TK_2 hT m12
  have eth2 : ∀ i, th (mg μ2.1 N) i = th (mg μ.1 N) i := fun i => by unfold th; rw [m12 87 (by omega) (by omega)]
  have l55 : mg μ.1 N (55 + 4 * two a b (w % 2)) = μ.1 (55 + 4 * two a b (w % 2)) := mg_lo (by omega)
  have elv : lvV (μ1.1 (55 + 4 * two a b (w % 2)) 3) (μ1.1 (55 + 4 * two a b (w % 2)) 4) (μ1.1 (55 + 4 * two a b (w % 2)) 2) (w / 2) = lvM (mg μ.1 N) a b w := by
    unfold lvM
    rw [o1.1 _ (by omega) (by omega), ← l55]
    rw [show (mg μ.1 N) (55 + 4 * two a b (w % 2)) 3 = _ from hlev.2.1.1, show (mg μ.1 N) (55 + 4 * two a b (w % 2)) 4 = _ from hlev.2.2.1, show (mg μ.1 N) (55 + 4 * two a b (w % 2)) 2 = _ from hlev.1.1]
  rw [elv] at hR
  have hS : chS (mg μ.1 N) a b w kd st pr := by
    refine chR_c ?_ ?_ (rkF_c 64 (fun x hx => ⟨?_, ?_⟩)) (fun s => ?_) hR
    · rw [suP_c (M := mg μ.1 N) (M' := μ1.1) (N := mg μ.1 N) (N' := N) (by rw [o1.1 74 (by omega) (by omega)]; exact (mg_lo (by omega)).symm) (fun d hd => by
        have hv : two (56 + 4 * a) (56 + 4 * b) d + 2 < 86 ∧ 56 ≤ two (56 + 4 * a) (56 + 4 * b) d := by unfold two; split <;> omega
        rw [o1.1 _ (by omega) (by omega), o1.1 _ (by omega) (by omega), mg_lo (by omega), mg_lo (by omega)]
        exact ⟨rfl, rfl⟩) e100.symm e101.symm e102.symm]
      refine (suP_y hT).trans ?_
      unfold yP
      constructor
      · rintro ⟨x1, x2, x3⟩
        exact ⟨⟨x1, x2, i_tr (lvV_ge _ _ _ _) x3⟩, x3⟩
      · rintro ⟨⟨x1, x2, -⟩, x3⟩
        exact ⟨x1, x2, x3⟩
    · unfold isOf; rw [e100]
    · unfold okC okM
      obtain hd | hd : w % 2 = 0 ∨ w % 2 = 1 := by omega
      · rw [hd]; simp only [two, if_true, Nat.one_ne_zero, if_false]
        rw [mg_lo (show 58 + 4 * a < 86 by omega), e562]
      · rw [hd]; simp only [two, if_true, Nat.one_ne_zero, if_false]
        rw [mg_lo (show 58 + 4 * b < 86 by omega), e562]
    · unfold wC wM
      obtain hd | hd : w % 2 = 0 ∨ w % 2 = 1 := by omega
      · rw [hd]; simp only [two, if_true, Nat.one_ne_zero, if_false]
        rw [mg_lo (show 57 + 4 * a < 86 by omega), e561]
      · rw [hd]; simp only [two, if_true, Nat.one_ne_zero, if_false]
        rw [mg_lo (show 57 + 4 * b < 86 by omega), e561]
    · unfold pfC pfM
      have hv : two (56 + 4 * a) (56 + 4 * b) (w % 2) + 2 < 86 ∧ 56 ≤ two (56 + 4 * a) (56 + 4 * b) (w % 2) := by unfold two; split <;> omega
      have eg : gnd μ1.1 (two (th (mg μ.1 N) a) (th (mg μ.1 N) b)) (two (56 + 4 * a) (56 + 4 * b)) (w % 2) s = gnd (mg μ.1 N) (two (th (mg μ.1 N) a) (th (mg μ.1 N) b)) (two (56 + 4 * a) (56 + 4 * b)) (w % 2) s := by
        unfold gnd
        rw [o1.1 _ (by omega) (by omega), mg_lo (by omega)]
      rw [eg]
      obtain hd | hd : w % 2 = 0 ∨ w % 2 = 1 := by omega
      · rw [hd, gnd_0]; rfl
      · rw [hd, gnd_1, if_neg (by decide), if_neg (by decide), Int32.neg_sub]; rfl
  have t73 : μ2.1 73 = μ.1 73 := s12 73 (by omega) (by omega)
  by_cases h3 : kd = 3
  · obtain ⟨⟨yO, yM', -⟩, -⟩ := chR_3 hS h3
    obtain ⟨m, rfl⟩ : ∃ m, w = m + 1 := ⟨w - 1, by omega⟩
    simp only [Nat.add_sub_cancel] at yO yM'
    have yO' : isOf N m := by have := yO.2; unfold isOf at this ⊢; rw [e100] at this; exact this
    have ewu : wu (mg μ.1 N) m = wu N m := by unfold wu; rw [e101]
    rw [ewu, e102] at yM'
    obtain ⟨eu, hu6⟩ := hofN m (by omega) yO'
    have g76 : μ2.1 76 m = nI (wu N m) := by rw [s12 76 (by omega) (by omega), (hkN m (by omega)).2.1]; exact eu
    have g77 : μ2.1 77 m = N 102 m := by rw [s12 77 (by omega) (by omega)]; exact (hkN m (by omega)).2.2
    have yOB : isOf (mg μ2.1 N) m := by unfold isOf; rw [mg_hi (by omega)]; exact yO'
    have hgB : goM (mg μ2.1 N) a b (wu N m) (N 102 m) := by
      unfold goM at yM' ⊢
      rw [eth2, eth2, m12 88 (by omega) (by omega), m12 (58 + 4 * a) (by omega) (by omega), m12 (58 + 4 * b) (by omega) (by omega)]
      exact yM'
    have hIy := Inv_agree (u := wu N m) (p := N 102 m) hI2 hT2 yOB (by unfold wu; dsimp only; rw [mg_hi (by omega)]) (by dsimp only; rw [mg_hi (by omega)]) hgB
    have emg : mg (addM (agM μ2.1 a b (wu N m) (N 102 m)) (m + 1) 3 0 0 2) (yesM N N a b m (wu N m) (N 102 m)) = yesM (mg μ2.1 N) (yesC (mg μ2.1 N) a b m (wu N m) (N 102 m)) a b m (wu N m) (N 102 m) := by
      unfold yesM yesC sayM
      simp (disch := omega) only [mg_up_hi, mg_sw]
      unfold addM agM
      simp (disch := omega) only [mg_up_lo, mg_lo, mg_hi]
    refine wp_aload_n (pc := 62) dX11_letMachineSpeak_62 (by first | rfl | assumption | (repeat first | assumption | rfl | refine aG_n ?_ rfl rfl)) ?_
    refine wp_getR (pc := 63) dX11_letMachineSpeak_63 fl_11_46 (by first | rfl | assumption | exact sh_house (by omega) | exact sh_wish (by omega) | exact sh_wor (by omega) | exact sh_bar (by omega) | exact sh_term (by omega) | exact sh_sheet (by omega) | exact sh_items (by omega) | exact sh_sums (by omega)) rfl ?_
    refine wp_getI (pc := 66) dX11_letMachineSpeak_66 fl_11_403 (by first | rfl | assumption | exact sh_house (by omega) | exact sh_wish (by omega) | exact sh_wor (by omega) | exact sh_bar (by omega) | exact sh_term (by omega) | exact sh_sheet (by omega) | exact sh_items (by omega) | exact sh_sums (by omega)) rfl ?_
    refine wp_iconst (pc := 69) (v := 3) dX11_letMachineSpeak_69 (by decide) ?_
    refine wp_icmp_ne (pc := 70) (tgt := 80) dX11_letMachineSpeak_70 rfl (fun q => absurd (e0.trans h3) q) (fun _ => ?_)
    refine wp_aload_n (pc := 73) dX11_letMachineSpeak_73 (by first | rfl | assumption | (repeat first | assumption | rfl | refine aG_n ?_ rfl rfl)) ?_
    refine wp_cV (pc := 74) dX11_letMachineSpeak_74 lk_11_231 rfl (by decide) rfl (by first | rfl | assumption | exact sh_house (by omega) | exact sh_wish (by omega) | exact sh_wor (by omega) | exact sh_bar (by omega) | exact sh_term (by omega) | exact sh_sheet (by omega) | exact sh_items (by omega) | exact sh_sums (by omega)) rfl rfl (c_X11_agree (a := a) (b := b) (mo := mo) (m := m) (u := wu N m) (p := N 102 m) (by rw [t73]; exact k1) (by rw [t73]; exact kw1) (by rw [t73]; exact km1) km4 km3 ha hb hab (by rw [t73]; exact kp1) (by rw [t73]; exact kp3) g76 g77 (aK_v ?_))
    refine wp_goto (pc := 77) (tgt := 108) dX11_letMachineSpeak_77 rfl ?_
    refine wp_aload_n (pc := 108) dX11_letMachineSpeak_108 (by first | rfl | assumption | (repeat first | assumption | rfl | refine aG_n ?_ rfl rfl)) ?_
    refine wp_getR (pc := 109) dX11_letMachineSpeak_109 fl_11_46 (by first | rfl | assumption | exact sh_house (by omega) | exact sh_wish (by omega) | exact sh_wor (by omega) | exact sh_bar (by omega) | exact sh_term (by omega) | exact sh_sheet (by omega) | exact sh_items (by omega) | exact sh_sums (by omega)) rfl ?_
    refine wp_getI (pc := 112) dX11_letMachineSpeak_112 fl_11_403 (by first | rfl | assumption | exact sh_house (by omega) | exact sh_wish (by omega) | exact sh_wor (by omega) | exact sh_bar (by omega) | exact sh_term (by omega) | exact sh_sheet (by omega) | exact sh_items (by omega) | exact sh_sums (by omega)) rfl ?_
    refine wp_ireturn (pc := 115) dX11_letMachineSpeak_115 rfl (by first | rfl | decide | assumption) ?_
    skip
    refine qEq (b := kd) (by unfold addM agM; simp (disch := omega) only [up2_ne]; exact e0) (k _ kd st pr hS ⟨fun c hc => ?_, fun c h1 h2 h4 h5 h6 h7 => ?_⟩ r12 ?_ (fun _ => ⟨by omega, yO'⟩))
    · unfold addM agM; simp (disch := omega) only [up2_ne]; exact s12 c (by omega) (by omega)
    · unfold addM agM; simp (disch := omega) only [up2_ne]; exact s12 c h4 h5
    · unfold nxN
      rw [if_pos h3, zOf3]
      simp only [Nat.add_sub_cancel]
      rw [emg]
      exact hIy
  · have hn := chR_n hS h3
    have kdr : inR kd 0 4 := by
      rcases hn with ⟨rfl, -⟩ | ⟨-, -, o, -⟩
      · unfold inR; decide
      · rcases o with ⟨-, rfl⟩ | ⟨-, rfl⟩
        · unfold inR; decide
        · unfold inR; decide
    obtain ⟨rp1, rp2⟩ := rkF_p (okM (mg μ.1 N) a b (two a b (w % 2))) (wM (mg μ.1 N) (two a b (w % 2))) 64
    have rok := rkF_ok (okM (mg μ.1 N) a b (two a b (w % 2))) (wM (mg μ.1 N) (two a b (w % 2))) 64
    obtain ⟨pl1, pl2⟩ := TK_pool hI hT
    have x1 : (kd = 1 ∨ kd = 2) → (∃ t, t < 64 ∧ st = nI t) ∧ inR pr (-999) 999 ∧ (kd = 2 ↔ 0 < w ∧ isOf (mg μ2.1 N) (w - 1)) := by
      intro hk
      rcases hn with ⟨rfl, -⟩ | ⟨q0, qi, o, rfl, rfl⟩
      · exact absurd hk (by decide)
      · refine ⟨⟨_, rp2 _ (Nat.mod_lt _ (by omega)), rfl⟩, qi, ?_⟩
        have eO : isOf (mg μ2.1 N) (w - 1) ↔ isOf (mg μ.1 N) (w - 1) := by unfold isOf; rw [m12 100 (by omega) (by omega)]
        rw [eO]
        rcases o with ⟨o, rfl⟩ | ⟨o, rfl⟩
        · exact ⟨fun _ => o, fun _ => rfl⟩
        · exact ⟨fun z => absurd z (by decide), fun z => absurd z o⟩
    have x2 : ¬ (kd = 1 ∨ kd = 2) → st = 0 ∧ pr = 0 := by
      intro hk
      rcases hn with ⟨-, z⟩ | ⟨-, -, o, -⟩
      · exact z
      · exact absurd (o.elim (fun z => Or.inr z.2) (fun z => Or.inl z.2)) hk
    have x4 : (kd = 1 ∨ kd = 2) → st &&& ((mg μ2.1 N 86 23 ||| mg μ2.1 N 86 24) ^^^ (-1)) = 0 := by
      intro hk
      rw [m12 86 (by omega) (by omega)]
      rcases hn with ⟨rfl, -⟩ | ⟨q0, qi, o, rfl, rfl⟩
      · exact absurd hk (by decide)
      · have := of_decide_eq_true (rok _ (Nat.mod_lt (w / 2) (by omega)))
        rw [show mg μ.1 N 86 23 = _ from pl1, show mg μ.1 N 86 24 = _ from pl2]
        exact this.1
    have hIs := Inv_say (w := w) (mo := mo) (kd := kd) (st := st) (pr := pr) hI2 (by dsimp only; rw [m12 86 (by omega) (by omega)]; exact k0) (by dsimp only; rw [m12 86 (by omega) (by omega)]; exact kw2) (by omega) (by dsimp only; rw [m12 86 (by omega) (by omega)]; exact km2) km3 kdr x1 x2 x4
    have emg : mg (addM μ2.1 w kd st pr (zOf kd w mo)) (sayM N w kd st pr (zOf kd w mo)) = sayM (addM (mg μ2.1 N) w kd st pr (zOf kd w mo)) w kd st pr (zOf kd w mo) := by
      unfold sayM
      simp (disch := omega) only [mg_up_hi]
      unfold addM
      simp (disch := omega) only [mg_up_lo]
    refine wp_aload_n (pc := 62) dX11_letMachineSpeak_62 (by first | rfl | assumption | (repeat first | assumption | rfl | refine aG_n ?_ rfl rfl)) ?_
    refine wp_getR (pc := 63) dX11_letMachineSpeak_63 fl_11_46 (by first | rfl | assumption | exact sh_house (by omega) | exact sh_wish (by omega) | exact sh_wor (by omega) | exact sh_bar (by omega) | exact sh_term (by omega) | exact sh_sheet (by omega) | exact sh_items (by omega) | exact sh_sums (by omega)) rfl ?_
    refine wp_getI (pc := 66) dX11_letMachineSpeak_66 fl_11_403 (by first | rfl | assumption | exact sh_house (by omega) | exact sh_wish (by omega) | exact sh_wor (by omega) | exact sh_bar (by omega) | exact sh_term (by omega) | exact sh_sheet (by omega) | exact sh_items (by omega) | exact sh_sums (by omega)) rfl ?_
    refine wp_iconst (pc := 69) (v := 3) dX11_letMachineSpeak_69 (by decide) ?_
    refine wp_icmp_ne (pc := 70) (tgt := 80) dX11_letMachineSpeak_70 rfl (fun _ => ?_) (fun q => absurd q (by rw [e0]; exact h3))
    refine wp_aload_n (pc := 80) dX11_letMachineSpeak_80 (by first | rfl | assumption | (repeat first | assumption | rfl | refine aG_n ?_ rfl rfl)) ?_
    refine wp_getR (pc := 81) dX11_letMachineSpeak_81 fl_11_92 (by first | rfl | assumption | exact sh_house (by omega) | exact sh_wish (by omega) | exact sh_wor (by omega) | exact sh_bar (by omega) | exact sh_term (by omega) | exact sh_sheet (by omega) | exact sh_items (by omega) | exact sh_sums (by omega)) rfl ?_
    refine wp_aload_n (pc := 84) dX11_letMachineSpeak_84 (by first | rfl | assumption | (repeat first | assumption | rfl | refine aG_n ?_ rfl rfl)) ?_
    refine wp_getR (pc := 85) dX11_letMachineSpeak_85 fl_11_46 (by first | rfl | assumption | exact sh_house (by omega) | exact sh_wish (by omega) | exact sh_wor (by omega) | exact sh_bar (by omega) | exact sh_term (by omega) | exact sh_sheet (by omega) | exact sh_items (by omega) | exact sh_sums (by omega)) rfl ?_
    refine wp_getI (pc := 88) dX11_letMachineSpeak_88 fl_11_403 (by first | rfl | assumption | exact sh_house (by omega) | exact sh_wish (by omega) | exact sh_wor (by omega) | exact sh_bar (by omega) | exact sh_term (by omega) | exact sh_sheet (by omega) | exact sh_items (by omega) | exact sh_sums (by omega)) rfl ?_
    refine wp_aload_n (pc := 91) dX11_letMachineSpeak_91 (by first | rfl | assumption | (repeat first | assumption | rfl | refine aG_n ?_ rfl rfl)) ?_
    refine wp_getR (pc := 92) dX11_letMachineSpeak_92 fl_11_46 (by first | rfl | assumption | exact sh_house (by omega) | exact sh_wish (by omega) | exact sh_wor (by omega) | exact sh_bar (by omega) | exact sh_term (by omega) | exact sh_sheet (by omega) | exact sh_items (by omega) | exact sh_sums (by omega)) rfl ?_
    refine wp_getI (pc := 95) dX11_letMachineSpeak_95 fl_11_406 (by first | rfl | assumption | exact sh_house (by omega) | exact sh_wish (by omega) | exact sh_wor (by omega) | exact sh_bar (by omega) | exact sh_term (by omega) | exact sh_sheet (by omega) | exact sh_items (by omega) | exact sh_sums (by omega)) rfl ?_
    refine wp_aload_n (pc := 98) dX11_letMachineSpeak_98 (by first | rfl | assumption | (repeat first | assumption | rfl | refine aG_n ?_ rfl rfl)) ?_
    refine wp_getR (pc := 99) dX11_letMachineSpeak_99 fl_11_46 (by first | rfl | assumption | exact sh_house (by omega) | exact sh_wish (by omega) | exact sh_wor (by omega) | exact sh_bar (by omega) | exact sh_term (by omega) | exact sh_sheet (by omega) | exact sh_items (by omega) | exact sh_sums (by omega)) rfl ?_
    refine wp_getI (pc := 102) dX11_letMachineSpeak_102 fl_11_409 (by first | rfl | assumption | exact sh_house (by omega) | exact sh_wish (by omega) | exact sh_wor (by omega) | exact sh_bar (by omega) | exact sh_term (by omega) | exact sh_sheet (by omega) | exact sh_items (by omega) | exact sh_sums (by omega)) rfl ?_
    refine wp_cV (pc := 105) dX11_letMachineSpeak_105 lk_11_215 rfl (by decide) rfl (by first | rfl | assumption | exact sh_house (by omega) | exact sh_wish (by omega) | exact sh_wor (by omega) | exact sh_bar (by omega) | exact sh_term (by omega) | exact sh_sheet (by omega) | exact sh_items (by omega) | exact sh_sums (by omega)) rfl rfl ?_
    rw [e0, e1, e2]
    refine c_X7_add (w := w) (mo := mo) (by rw [t73]; exact k1) (by rw [t73]; exact kw1) (by rw [t73]; exact km1) km4 km3 (aK_v ?_)
    refine wp_aload_n (pc := 108) dX11_letMachineSpeak_108 (by first | rfl | assumption | (repeat first | assumption | rfl | refine aG_n ?_ rfl rfl)) ?_
    refine wp_getR (pc := 109) dX11_letMachineSpeak_109 fl_11_46 (by first | rfl | assumption | exact sh_house (by omega) | exact sh_wish (by omega) | exact sh_wor (by omega) | exact sh_bar (by omega) | exact sh_term (by omega) | exact sh_sheet (by omega) | exact sh_items (by omega) | exact sh_sums (by omega)) rfl ?_
    refine wp_getI (pc := 112) dX11_letMachineSpeak_112 fl_11_403 (by first | rfl | assumption | exact sh_house (by omega) | exact sh_wish (by omega) | exact sh_wor (by omega) | exact sh_bar (by omega) | exact sh_term (by omega) | exact sh_sheet (by omega) | exact sh_items (by omega) | exact sh_sums (by omega)) rfl ?_
    refine wp_ireturn (pc := 115) dX11_letMachineSpeak_115 rfl (by first | rfl | decide | assumption) ?_
    skip
    refine qEq (b := kd) (by unfold addM; simp (disch := omega) only [up2_ne]; exact e0) (k _ kd st pr hS ⟨fun c hc => ?_, fun c h1 h2 h4 h5 h6 h7 => ?_⟩ r12 ?_ (fun z => absurd z h3))
    · unfold addM; simp (disch := omega) only [up2_ne]; exact s12 c (by omega) (by omega)
    · unfold addM; simp (disch := omega) only [up2_ne]; exact s12 c h4 h5
    · unfold nxN
      rw [if_neg h3]
      dsimp only
      rw [emg]
      exact hIs
end SPEAK

/-! bits -/
theorem nI_or {a b : Nat} (ha : a < 2 ^ 32) (hb : b < 2 ^ 32) : nI a ||| nI b = nI (a ||| b) := by
  apply Int32.toBitVec_inj.mp
  apply BitVec.eq_of_toNat_eq
  rw [pk_tn (Nat.or_lt_two_pow ha hb), Int32.toBitVec_or, BitVec.toNat_or, pk_tn ha, pk_tn hb]
theorem nI_xor {a b : Nat} (ha : a < 2 ^ 32) (hb : b < 2 ^ 32) : nI a ^^^ nI b = nI (a ^^^ b) := by
  apply Int32.toBitVec_inj.mp
  apply BitVec.eq_of_toNat_eq
  rw [pk_tn (Nat.xor_lt_two_pow ha hb), Int32.toBitVec_xor, BitVec.toNat_xor, pk_tn ha, pk_tn hb]
theorem nI_and {a b : Nat} (ha : a < 2 ^ 32) (hb : b < 2 ^ 32) : nI a &&& nI b = nI (a &&& b) := by
  apply Int32.toBitVec_inj.mp
  apply BitVec.eq_of_toNat_eq
  rw [pk_tn (Nat.and_lt_two_pow a hb), Int32.toBitVec_and, BitVec.toNat_and, pk_tn ha, pk_tn hb]
theorem x64 {a b : Nat} (ha : a < 64) (hb : b < 64) : a ^^^ b < 64 := Nat.xor_lt_two_pow (n := 6) ha hb
theorem o64 {a b : Nat} (ha : a < 64) (hb : b < 64) : a ||| b < 64 := Nat.or_lt_two_pow (n := 6) ha hb
theorem a64 {a b : Nat} (hb : b < 64) : a &&& b < 64 := Nat.and_lt_two_pow (n := 6) a hb
theorem xor6 {a b : Nat} (ha : a < 64) (hb : b < 64) : nI a ^^^ nI b = nI (a ^^^ b) := nI_xor (by omega) (by omega)
theorem or6 {a b : Nat} (ha : a < 64) (hb : b < 64) : nI a ||| nI b = nI (a ||| b) := nI_or (by omega) (by omega)
theorem bit_i : ∀ x, x < 64 → ∀ t, t < 6 → ((nI x >>> (nI t &&& 31)) &&& 1 = 1 ↔ x.testBit t = true) := by decide +kernel
theorem bit_0 : ∀ x, x < 64 → ∀ t, t < 6 → ((nI x >>> (nI t &&& 31)) &&& 1 = 0 ↔ x.testBit t = false) := by decide +kernel
theorem clr_i : ∀ x, x < 64 → ∀ t, t < 6 → nI x &&& (((1 : Int32) <<< (nI t &&& 31)) ^^^ (-1)) = nI (x &&& (63 ^^^ 2 ^ t)) := by decide +kernel
theorem set_i : ∀ x, x < 64 → ∀ t, t < 6 → nI x ||| ((1 : Int32) <<< (nI t &&& 31)) = nI (x ||| 2 ^ t) := by decide +kernel
theorem sub_i : ∀ x, x < 64 → ∀ y, y < 64 → (nI x &&& (nI y ^^^ (-1)) = 0 ↔ x &&& y = x) := by decide +kernel
theorem tsF_bit (O : Nat → Int32) (i : Nat) : ∀ n t, t < n → (tsF O i n).testBit t = decide (O t = nI i)
  | 0, _, h => absurd h (Nat.not_lt_zero _)
  | n + 1, t, h => by
    have hl := tsF_lt O i n
    unfold tsF
    by_cases e : t = n
    · subst e
      split
      · rw [Nat.add_comm, Nat.testBit_two_pow_add_eq, Nat.testBit_lt_two_pow hl]; simp [*]
      · simp [Nat.testBit_lt_two_pow hl, *]
    · have := tsF_bit O i n t (by omega)
      split
      · rw [Nat.add_comm, Nat.testBit_two_pow_add_gt (by omega)]; exact this
      · simpa using this
theorem bit_hi {x t : Nat} (hx : x < 64) (ht : 6 ≤ t) : x.testBit t = false := Nat.testBit_lt_two_pow (Nat.lt_of_lt_of_le hx (Nat.pow_le_pow_right (n := 2) (by decide) ht))
theorem tsF_uq {O : Nat → Int32} {i x : Nat} (hx : x < 64) (h : ∀ t, t < 6 → x.testBit t = decide (O t = nI i)) : x = tsF O i 6 := by
  apply Nat.eq_of_testBit_eq
  intro t
  by_cases ht : t < 6
  · rw [h t ht, tsF_bit O i 6 t ht]
  · rw [bit_hi hx (by omega), bit_hi (tsF_lt O i 6) (by omega)]
abbrev th (M : MM) (i : Nat) : Nat := tsF (M 87) i 6
theorem th_lt (M : MM) (i : Nat) : th M i < 64 := tsF_lt (M 87) i 6
/-! what Inv does not speak of -/
def scr (c j : Nat) : Prop := (4 ≤ c ∧ c ≤ 10) ∨ c = 29 ∨ c = 30 ∨ c = 33 ∨ c = 71 ∨ c = 72 ∨ (97 ≤ c ∧ c ≤ 99) ∨ (103 ≤ c ∧ c ≤ 110) ∨ (120 ≤ c ∧ c ≤ 122) ∨ (c = 86 ∧ (j = 11 ∨ j = 29 ∨ j = 31)) ∨ (c = 2 ∧ j = 2)
def Smm (M M' : MM) : Prop := ∀ c j, ¬ scr c j → M' c j = M c j
theorem Smm.rfl {M : MM} : Smm M M := fun _ _ _ => _root_.rfl
theorem Smm.trans {M M' M'' : MM} (h : Smm M M') (h' : Smm M' M'') : Smm M M'' := fun c j q => (h' c j q).trans (h c j q)
theorem Smm.symm {M M' : MM} (h : Smm M M') : Smm M' M := fun c j q => (h c j q).symm
theorem Smm.up {M M' : MM} {a j : Nat} {v : Int32} (h : Smm M M') (hs : scr a j) : Smm M (up2 M' a j v) := fun c i q => by
  rw [up2_p (fun z => q (by rw [z.1, z.2]; exact hs))]; exact h c i q
theorem Smm.row {M M' : MM} (h : Smm M M') {c : Nat} (hc : ∀ j, ¬ scr c j) : M' c = M c := funext fun j => h c j (hc j)
theorem Inv_s {M M' : MM} {R R' : Nat → Nat → Nat} (hI : Inv (M, R)) (h : Smm M M') (hR : R' 74 = R 74) : Inv (M', R') := by
  have hr : ∀ c : Nat, ¬ ((4 ≤ c ∧ c ≤ 10) ∨ c = 29 ∨ c = 30 ∨ c = 33 ∨ c = 71 ∨ c = 72 ∨ (97 ≤ c ∧ c ≤ 99) ∨ (103 ≤ c ∧ c ≤ 110) ∨ (120 ≤ c ∧ c ≤ 122) ∨ c = 86 ∨ c = 2) → M' c = M c := fun c hc => h.row (fun j => by unfold scr; omega)
  have h86 : ∀ j, ¬ (j = 11 ∨ j = 29 ∨ j = 31) → M' 86 j = M 86 j := fun j hj => h 86 j (by unfold scr; omega)
  have h2 : M' 2 1 = M 2 1 := h 2 1 (by unfold scr; omega)
  obtain ⟨i1, i2, i3, i4, i5, i6, i7, i8, i9, i10⟩ := hI
  refine ⟨own_c (hr _ (by omega)) (fun i hi => congrFun (hr _ (by omega)) 0) i1, coin_c (hr _ (by omega)) (fun i hi => congrFun (hr _ (by omega)) 1) i2, lev_c ⟨hr _ (by omega), hr _ (by omega), hr _ (by omega)⟩ (fun i hi => ⟨congrFun (hr _ (by omega)) 2, congrFun (hr _ (by omega)) 3, congrFun (hr _ (by omega)) 4⟩) i3, wish_c ⟨hr _ (by omega), hr _ (by omega), hr _ (by omega), hr _ (by omega)⟩ (fun i hi => ⟨hr _ (by omega), hr _ (by omega), hr _ (by omega)⟩) i4, tape_c h2 (h86 _ (by omega)) (hr _ (by omega)) (hr _ (by omega)) i5, talk_c ⟨hr _ (by omega), hr _ (by omega), hr _ (by omega), hr _ (by omega), hr _ (by omega)⟩ ⟨hr _ (by omega), hr _ (by omega), hr _ (by omega)⟩ (fun j a b => h86 _ (by omega)) (fun _ => ⟨hr _ (by omega), hr _ (by omega)⟩) hR i6, led_c (congrFun (hr _ (by omega)) 2) (h86 _ (by omega)) (fun i hi => hr _ (by omega)) (fun c a b => ?_) ⟨hr _ (by omega), hr _ (by omega)⟩ i7, row_c (hr _ (by omega)) (hr _ (by omega)) i8, sheet_c ⟨hr _ (by omega), hr _ (by omega), hr _ (by omega)⟩ (fun s hs => ⟨hr _ (by omega), hr _ (by omega)⟩) i9, grp_c (congrFun (hr _ (by omega)) 1) (fun g hg => hr _ (by omega)) (fun i hi => ⟨hr _ (by omega), hr _ (by omega)⟩) i10⟩
  exact hr _ (by omega)
/-! WISHES and pairs -/
def Wsh (w : Nat) : Prop := shp[w]? = some (.inl (10, [(0, 0), (1, w + 1), (1, w + 2)])) ∧ shp[w + 1]? = some (.inr (.inl (0, 64))) ∧ shp[w + 2]? = some (.inr (.inl (1, 64)))
theorem Wsh_h {i : Nat} (hi : i < 4) : Wsh (56 + 4 * i) := by
  match i, hi with
  | 0, _ => exact ⟨rfl, rfl, rfl⟩
  | 1, _ => exact ⟨rfl, rfl, rfl⟩
  | 2, _ => exact ⟨rfl, rfl, rfl⟩
  | 3, _ => exact ⟨rfl, rfl, rfl⟩
theorem Wsh_g : Wsh 7 := ⟨rfl, rfl, rfl⟩
theorem Wsh_d : Wsh 4 := ⟨rfl, rfl, rfl⟩
def Pr (μ : Mm) (P : Nat) (t w : Nat → Nat) : Prop := shp[P]? = some (.inl (4, [(0, 0), (0, 0), (0, 0), (0, 0), (2, 0), (2, 0)])) ∧ ∀ d, d < 2 → (μ.1 P d = nI (t d) ∧ t d < 64) ∧ (μ.2 P (4 + d) = w d ∧ Wsh (w d) ∧ ∀ s, s < 64 → μ.1 (w d + 2) s = 0 ∨ μ.1 (w d + 2) s = 1)
def gnd (M : MM) (t w : Nat → Nat) (d s : Nat) : Int32 := M (w d + 1) (t d ^^^ s) - M (w d + 1) (t d)
def gnp (M : MM) (t w : Nat → Nat) (d s : Nat) (p : Int32) : Int32 := if d = 0 then gnd M t w d s - p else gnd M t w d s + p
def opB (M : MM) (t w : Nat → Nat) (s : Nat) : Prop := M (w 0 + 2) (t 0 ^^^ s) = 0 ∧ M (w 1 + 2) (t 1 ^^^ s) = 0
def goB (M : MM) (P : Nat) (t w : Nat → Nat) (s : Nat) (p : Int32) : Prop := opB M t w s ∧ inR (M P 2 - p) 0 9999 ∧ inR (M P 3 + p) 0 9999
section PAIR
variable {X : aX} {μ : Mm} {Q : Option Value → Mm → Prop} {P d s : Nat} {t w : Nat → Nat}
theorem c_X4_isBarredTo (h : Pr μ P t w) (hd : d < 2) (hs : s < 64) (kt : ¬ μ.1 (w d + 2) (t d ^^^ s) = 0 → Q (some (.int 1)) μ) (kf : μ.1 (w d + 2) (t d ^^^ s) = 0 → Q (some (.int 0)) μ) : WP X mX4_isBarredTo 0 (lv_args 0 [.ref P, .int (nI d), .int (nI s)]) [] μ Q := by
  obtain ⟨hP, hh⟩ := h
  have hx := hh d hd
  obtain ⟨⟨e0, l0⟩, e1, ⟨w1, w2, w3⟩, w4⟩ := hx
  have hb := w4 _ (x64 l0 hs)
  obtain rfl | rfl : d = 0 ∨ d = 1 := by omega
  · replace e1 : μ.2 P 4 = w 0 := e1
    rw [← e1] at w1 w2 w3 hb kt kf
    have ec : (μ.1 P 0 ^^^ nI s).toNatClampNeg = t 0 ^^^ s := by rw [e0, xor6 l0 hs, nI_clamp (Nat.lt_trans (x64 l0 hs) (by decide))]
    refine wp_iload_n (pc := 0) dX4_isBarredTo_0 (by first | rfl | assumption | (repeat first | assumption | rfl | refine aG_n ?_ rfl rfl)) ?_
    refine wp_if_ne (pc := 1) (tgt := 21) dX4_isBarredTo_1 rfl (fun q => absurd rfl q) (fun _ => ?_)
    refine wp_aload_n (pc := 4) dX4_isBarredTo_4 (by first | rfl | assumption | (repeat first | assumption | rfl | refine aG_n ?_ rfl rfl)) ?_
    refine wp_getD (pc := 5) dX4_isBarredTo_5 fl_4_40 (by first | rfl | assumption | exact sh_house (by omega) | exact sh_wish (by omega) | exact sh_wor (by omega) | exact sh_bar (by omega) | exact sh_term (by omega) | exact sh_sheet (by omega) | exact sh_items (by omega) | exact sh_sums (by omega)) rfl ?_
    refine wp_getR (pc := 8) dX4_isBarredTo_8 fl_4_50 (by first | rfl | assumption | exact sh_house (by omega) | exact sh_wish (by omega) | exact sh_wor (by omega) | exact sh_bar (by omega) | exact sh_term (by omega) | exact sh_sheet (by omega) | exact sh_items (by omega) | exact sh_sums (by omega)) rfl ?_
    refine wp_aload_n (pc := 11) dX4_isBarredTo_11 (by first | rfl | assumption | (repeat first | assumption | rfl | refine aG_n ?_ rfl rfl)) ?_
    refine wp_getI (pc := 12) dX4_isBarredTo_12 fl_4_21 (by first | rfl | assumption | exact sh_house (by omega) | exact sh_wish (by omega) | exact sh_wor (by omega) | exact sh_bar (by omega) | exact sh_term (by omega) | exact sh_sheet (by omega) | exact sh_items (by omega) | exact sh_sums (by omega)) rfl ?_
    refine wp_iload_n (pc := 15) dX4_isBarredTo_15 (by first | rfl | assumption | (repeat first | assumption | rfl | refine aG_n ?_ rfl rfl)) ?_
    refine wp_ixor (pc := 16) dX4_isBarredTo_16 ?_
    refine wp_zald (pc := 17) dX4_isBarredTo_17 (by first | rfl | assumption | exact sh_house (by omega) | exact sh_wish (by omega) | exact sh_wor (by omega) | exact sh_bar (by omega) | exact sh_term (by omega) | exact sh_sheet (by omega) | exact sh_items (by omega) | exact sh_sums (by omega)) (by rw [e0, xor6 l0 hs]; exact vp_in_nI (x64 l0 hs) (by decide)) ?_
    refine wp_goto (pc := 18) (tgt := 35) dX4_isBarredTo_18 rfl ?_
    refine wp_ireturn (pc := 35) dX4_isBarredTo_35 rfl (by rw [ec]; rcases hb with z | z <;> rw [z] <;> rfl) ?_
    rw [ec]
    rcases hb with z | z
    · rw [z]; exact kf z
    · rw [z]; exact kt (by rw [z]; decide)
  · replace e1 : μ.2 P 5 = w 1 := e1
    rw [← e1] at w1 w2 w3 hb kt kf
    have ec : (μ.1 P 1 ^^^ nI s).toNatClampNeg = t 1 ^^^ s := by rw [e0, xor6 l0 hs, nI_clamp (Nat.lt_trans (x64 l0 hs) (by decide))]
    refine wp_iload_n (pc := 0) dX4_isBarredTo_0 (by first | rfl | assumption | (repeat first | assumption | rfl | refine aG_n ?_ rfl rfl)) ?_
    refine wp_if_ne (pc := 1) (tgt := 21) dX4_isBarredTo_1 rfl (fun _ => ?_) (fun q => absurd q (by decide))
    refine wp_aload_n (pc := 21) dX4_isBarredTo_21 (by first | rfl | assumption | (repeat first | assumption | rfl | refine aG_n ?_ rfl rfl)) ?_
    refine wp_getD (pc := 22) dX4_isBarredTo_22 fl_4_43 (by first | rfl | assumption | exact sh_house (by omega) | exact sh_wish (by omega) | exact sh_wor (by omega) | exact sh_bar (by omega) | exact sh_term (by omega) | exact sh_sheet (by omega) | exact sh_items (by omega) | exact sh_sums (by omega)) rfl ?_
    refine wp_getR (pc := 25) dX4_isBarredTo_25 fl_4_50 (by first | rfl | assumption | exact sh_house (by omega) | exact sh_wish (by omega) | exact sh_wor (by omega) | exact sh_bar (by omega) | exact sh_term (by omega) | exact sh_sheet (by omega) | exact sh_items (by omega) | exact sh_sums (by omega)) rfl ?_
    refine wp_aload_n (pc := 28) dX4_isBarredTo_28 (by first | rfl | assumption | (repeat first | assumption | rfl | refine aG_n ?_ rfl rfl)) ?_
    refine wp_getI (pc := 29) dX4_isBarredTo_29 fl_4_24 (by first | rfl | assumption | exact sh_house (by omega) | exact sh_wish (by omega) | exact sh_wor (by omega) | exact sh_bar (by omega) | exact sh_term (by omega) | exact sh_sheet (by omega) | exact sh_items (by omega) | exact sh_sums (by omega)) rfl ?_
    refine wp_iload_n (pc := 32) dX4_isBarredTo_32 (by first | rfl | assumption | (repeat first | assumption | rfl | refine aG_n ?_ rfl rfl)) ?_
    refine wp_ixor (pc := 33) dX4_isBarredTo_33 ?_
    refine wp_zald (pc := 34) dX4_isBarredTo_34 (by first | rfl | assumption | exact sh_house (by omega) | exact sh_wish (by omega) | exact sh_wor (by omega) | exact sh_bar (by omega) | exact sh_term (by omega) | exact sh_sheet (by omega) | exact sh_items (by omega) | exact sh_sums (by omega)) (by rw [e0, xor6 l0 hs]; exact vp_in_nI (x64 l0 hs) (by decide)) ?_
    refine wp_ireturn (pc := 35) dX4_isBarredTo_35 rfl (by rw [ec]; rcases hb with z | z <;> rw [z] <;> rfl) ?_
    rw [ec]
    rcases hb with z | z
    · rw [z]; exact kf z
    · rw [z]; exact kt (by rw [z]; decide)
theorem c_X4_worthThen (h : Pr μ P t w) (hd : d < 2) (hs : s < 64) (k : Q (some (.int (μ.1 (w d + 1) (t d ^^^ s)))) μ) : WP X mX4_worthThen 0 (lv_args 0 [.ref P, .int (nI d), .int (nI s)]) [] μ Q := by
  obtain ⟨hP, hh⟩ := h
  have hx := hh d hd
  obtain ⟨⟨e0, l0⟩, e1, ⟨w1, w2, w3⟩, w4⟩ := hx
  obtain rfl | rfl : d = 0 ∨ d = 1 := by omega
  · replace e1 : μ.2 P 4 = w 0 := e1
    rw [← e1] at w1 w2 w3 k
    have ec : (μ.1 P 0 ^^^ nI s).toNatClampNeg = t 0 ^^^ s := by rw [e0, xor6 l0 hs, nI_clamp (Nat.lt_trans (x64 l0 hs) (by decide))]
    refine wp_iload_n (pc := 0) dX4_worthThen_0 (by first | rfl | assumption | (repeat first | assumption | rfl | refine aG_n ?_ rfl rfl)) ?_
    refine wp_if_ne (pc := 1) (tgt := 21) dX4_worthThen_1 rfl (fun q => absurd rfl q) (fun _ => ?_)
    refine wp_aload_n (pc := 4) dX4_worthThen_4 (by first | rfl | assumption | (repeat first | assumption | rfl | refine aG_n ?_ rfl rfl)) ?_
    refine wp_getD (pc := 5) dX4_worthThen_5 fl_4_40 (by first | rfl | assumption | exact sh_house (by omega) | exact sh_wish (by omega) | exact sh_wor (by omega) | exact sh_bar (by omega) | exact sh_term (by omega) | exact sh_sheet (by omega) | exact sh_items (by omega) | exact sh_sums (by omega)) rfl ?_
    refine wp_getR (pc := 8) dX4_worthThen_8 fl_4_56 (by first | rfl | assumption | exact sh_house (by omega) | exact sh_wish (by omega) | exact sh_wor (by omega) | exact sh_bar (by omega) | exact sh_term (by omega) | exact sh_sheet (by omega) | exact sh_items (by omega) | exact sh_sums (by omega)) rfl ?_
    refine wp_aload_n (pc := 11) dX4_worthThen_11 (by first | rfl | assumption | (repeat first | assumption | rfl | refine aG_n ?_ rfl rfl)) ?_
    refine wp_getI (pc := 12) dX4_worthThen_12 fl_4_21 (by first | rfl | assumption | exact sh_house (by omega) | exact sh_wish (by omega) | exact sh_wor (by omega) | exact sh_bar (by omega) | exact sh_term (by omega) | exact sh_sheet (by omega) | exact sh_items (by omega) | exact sh_sums (by omega)) rfl ?_
    refine wp_iload_n (pc := 15) dX4_worthThen_15 (by first | rfl | assumption | (repeat first | assumption | rfl | refine aG_n ?_ rfl rfl)) ?_
    refine wp_ixor (pc := 16) dX4_worthThen_16 ?_
    refine wp_iald (pc := 17) dX4_worthThen_17 (by first | rfl | assumption | exact sh_house (by omega) | exact sh_wish (by omega) | exact sh_wor (by omega) | exact sh_bar (by omega) | exact sh_term (by omega) | exact sh_sheet (by omega) | exact sh_items (by omega) | exact sh_sums (by omega)) (by rw [e0, xor6 l0 hs]; exact vp_in_nI (x64 l0 hs) (by decide)) ?_
    refine wp_goto (pc := 18) (tgt := 35) dX4_worthThen_18 rfl ?_
    refine wp_ireturn (pc := 35) dX4_worthThen_35 rfl (by first | rfl | decide | assumption) ?_
    rw [ec]; exact k
  · replace e1 : μ.2 P 5 = w 1 := e1
    rw [← e1] at w1 w2 w3 k
    have ec : (μ.1 P 1 ^^^ nI s).toNatClampNeg = t 1 ^^^ s := by rw [e0, xor6 l0 hs, nI_clamp (Nat.lt_trans (x64 l0 hs) (by decide))]
    refine wp_iload_n (pc := 0) dX4_worthThen_0 (by first | rfl | assumption | (repeat first | assumption | rfl | refine aG_n ?_ rfl rfl)) ?_
    refine wp_if_ne (pc := 1) (tgt := 21) dX4_worthThen_1 rfl (fun _ => ?_) (fun q => absurd q (by decide))
    refine wp_aload_n (pc := 21) dX4_worthThen_21 (by first | rfl | assumption | (repeat first | assumption | rfl | refine aG_n ?_ rfl rfl)) ?_
    refine wp_getD (pc := 22) dX4_worthThen_22 fl_4_43 (by first | rfl | assumption | exact sh_house (by omega) | exact sh_wish (by omega) | exact sh_wor (by omega) | exact sh_bar (by omega) | exact sh_term (by omega) | exact sh_sheet (by omega) | exact sh_items (by omega) | exact sh_sums (by omega)) rfl ?_
    refine wp_getR (pc := 25) dX4_worthThen_25 fl_4_56 (by first | rfl | assumption | exact sh_house (by omega) | exact sh_wish (by omega) | exact sh_wor (by omega) | exact sh_bar (by omega) | exact sh_term (by omega) | exact sh_sheet (by omega) | exact sh_items (by omega) | exact sh_sums (by omega)) rfl ?_
    refine wp_aload_n (pc := 28) dX4_worthThen_28 (by first | rfl | assumption | (repeat first | assumption | rfl | refine aG_n ?_ rfl rfl)) ?_
    refine wp_getI (pc := 29) dX4_worthThen_29 fl_4_24 (by first | rfl | assumption | exact sh_house (by omega) | exact sh_wish (by omega) | exact sh_wor (by omega) | exact sh_bar (by omega) | exact sh_term (by omega) | exact sh_sheet (by omega) | exact sh_items (by omega) | exact sh_sums (by omega)) rfl ?_
    refine wp_iload_n (pc := 32) dX4_worthThen_32 (by first | rfl | assumption | (repeat first | assumption | rfl | refine aG_n ?_ rfl rfl)) ?_
    refine wp_ixor (pc := 33) dX4_worthThen_33 ?_
    refine wp_iald (pc := 34) dX4_worthThen_34 (by first | rfl | assumption | exact sh_house (by omega) | exact sh_wish (by omega) | exact sh_wor (by omega) | exact sh_bar (by omega) | exact sh_term (by omega) | exact sh_sheet (by omega) | exact sh_items (by omega) | exact sh_sums (by omega)) (by rw [e0, xor6 l0 hs]; exact vp_in_nI (x64 l0 hs) (by decide)) ?_
    refine wp_ireturn (pc := 35) dX4_worthThen_35 rfl (by first | rfl | decide | assumption) ?_
    rw [ec]; exact k
theorem c_X4_gained {p : Int32} (h : Pr μ P t w) (hd : d < 2) (hs : s < 64) (k : Q (some (.int (gnp μ.1 t w d s p))) μ) : WP X mX4_gained 0 (lv_args 0 [.ref P, .int (nI d), .int (nI s), .int p]) [] μ Q := by
  have hP := h.1
  unfold gnp gnd at k
  obtain rfl | rfl : d = 0 ∨ d = 1 := by omega
  · rw [if_pos rfl] at k
    refine wp_aload_n (pc := 0) dX4_gained_0 (by first | rfl | assumption | (repeat first | assumption | rfl | refine aG_n ?_ rfl rfl)) ?_
    refine wp_iload_n (pc := 1) dX4_gained_1 (by first | rfl | assumption | (repeat first | assumption | rfl | refine aG_n ?_ rfl rfl)) ?_
    refine wp_iload_n (pc := 2) dX4_gained_2 (by first | rfl | assumption | (repeat first | assumption | rfl | refine aG_n ?_ rfl rfl)) ?_
    refine wp_cV (pc := 3) dX4_gained_3 lk_4_60 rfl (by decide) rfl (by first | rfl | assumption | exact sh_house (by omega) | exact sh_wish (by omega) | exact sh_wor (by omega) | exact sh_bar (by omega) | exact sh_term (by omega) | exact sh_sheet (by omega) | exact sh_items (by omega) | exact sh_sums (by omega)) rfl rfl (c_X4_worthThen h hd hs (aK_i ?_))
    refine wp_aload_n (pc := 6) dX4_gained_6 (by first | rfl | assumption | (repeat first | assumption | rfl | refine aG_n ?_ rfl rfl)) ?_
    refine wp_iload_n (pc := 7) dX4_gained_7 (by first | rfl | assumption | (repeat first | assumption | rfl | refine aG_n ?_ rfl rfl)) ?_
    refine wp_iconst (pc := 8) (v := 0) dX4_gained_8 (by decide) ?_
    refine wp_cV (pc := 9) dX4_gained_9 lk_4_60 rfl (by decide) rfl (by first | rfl | assumption | exact sh_house (by omega) | exact sh_wish (by omega) | exact sh_wor (by omega) | exact sh_bar (by omega) | exact sh_term (by omega) | exact sh_sheet (by omega) | exact sh_items (by omega) | exact sh_sums (by omega)) rfl rfl (c_X4_worthThen (s := 0) h hd (by decide) (aK_i ?_))
    refine wp_isub (pc := 12) dX4_gained_12 ?_
    refine wp_istore (pc := 13) dX4_gained_13 (by decide) ?_
    refine wp_iload_n (pc := 15) dX4_gained_15 (by first | rfl | assumption | (repeat first | assumption | rfl | refine aG_n ?_ rfl rfl)) ?_
    refine wp_if_ne (pc := 16) (tgt := 26) dX4_gained_16 rfl (fun q => absurd rfl q) (fun _ => ?_)
    refine wp_iload (pc := 19) dX4_gained_19 (by first | rfl | assumption | (repeat first | assumption | rfl | refine aG_n ?_ rfl rfl)) ?_
    refine wp_iload_n (pc := 21) dX4_gained_21 (by first | rfl | assumption | (repeat first | assumption | rfl | refine aG_n ?_ rfl rfl)) ?_
    refine wp_isub (pc := 22) dX4_gained_22 ?_
    refine wp_goto (pc := 23) (tgt := 30) dX4_gained_23 rfl ?_
    refine wp_ireturn (pc := 30) dX4_gained_30 rfl (by first | rfl | decide | assumption) ?_
    rw [Nat.xor_zero]; exact k
  · rw [if_neg (by decide)] at k
    refine wp_aload_n (pc := 0) dX4_gained_0 (by first | rfl | assumption | (repeat first | assumption | rfl | refine aG_n ?_ rfl rfl)) ?_
    refine wp_iload_n (pc := 1) dX4_gained_1 (by first | rfl | assumption | (repeat first | assumption | rfl | refine aG_n ?_ rfl rfl)) ?_
    refine wp_iload_n (pc := 2) dX4_gained_2 (by first | rfl | assumption | (repeat first | assumption | rfl | refine aG_n ?_ rfl rfl)) ?_
    refine wp_cV (pc := 3) dX4_gained_3 lk_4_60 rfl (by decide) rfl (by first | rfl | assumption | exact sh_house (by omega) | exact sh_wish (by omega) | exact sh_wor (by omega) | exact sh_bar (by omega) | exact sh_term (by omega) | exact sh_sheet (by omega) | exact sh_items (by omega) | exact sh_sums (by omega)) rfl rfl (c_X4_worthThen h hd hs (aK_i ?_))
    refine wp_aload_n (pc := 6) dX4_gained_6 (by first | rfl | assumption | (repeat first | assumption | rfl | refine aG_n ?_ rfl rfl)) ?_
    refine wp_iload_n (pc := 7) dX4_gained_7 (by first | rfl | assumption | (repeat first | assumption | rfl | refine aG_n ?_ rfl rfl)) ?_
    refine wp_iconst (pc := 8) (v := 0) dX4_gained_8 (by decide) ?_
    refine wp_cV (pc := 9) dX4_gained_9 lk_4_60 rfl (by decide) rfl (by first | rfl | assumption | exact sh_house (by omega) | exact sh_wish (by omega) | exact sh_wor (by omega) | exact sh_bar (by omega) | exact sh_term (by omega) | exact sh_sheet (by omega) | exact sh_items (by omega) | exact sh_sums (by omega)) rfl rfl (c_X4_worthThen (s := 0) h hd (by decide) (aK_i ?_))
    refine wp_isub (pc := 12) dX4_gained_12 ?_
    refine wp_istore (pc := 13) dX4_gained_13 (by decide) ?_
    refine wp_iload_n (pc := 15) dX4_gained_15 (by first | rfl | assumption | (repeat first | assumption | rfl | refine aG_n ?_ rfl rfl)) ?_
    refine wp_if_ne (pc := 16) (tgt := 26) dX4_gained_16 rfl (fun _ => ?_) (fun q => absurd q (by decide))
    refine wp_iload (pc := 26) dX4_gained_26 (by first | rfl | assumption | (repeat first | assumption | rfl | refine aG_n ?_ rfl rfl)) ?_
    refine wp_iload_n (pc := 28) dX4_gained_28 (by first | rfl | assumption | (repeat first | assumption | rfl | refine aG_n ?_ rfl rfl)) ?_
    refine wp_iadd (pc := 29) dX4_gained_29 ?_
    refine wp_ireturn (pc := 30) dX4_gained_30 rfl (by first | rfl | decide | assumption) ?_
    rw [Nat.xor_zero]; exact k
theorem c_X4_priceFor {p : Int32} (h : Pr μ P t w) (hd : d < 2) (hs : s < 64) (k : Q (some (.int (if d = 0 then gnd μ.1 t w d s - p else -(gnd μ.1 t w d s - p)))) μ) : WP X mX4_priceFor 0 (lv_args 0 [.ref P, .int (nI d), .int (nI s), .int p]) [] μ Q := by
  have hP := h.1
  obtain rfl | rfl : d = 0 ∨ d = 1 := by omega
  · rw [if_pos rfl] at k
    refine wp_aload_n (pc := 0) dX4_priceFor_0 (by first | rfl | assumption | (repeat first | assumption | rfl | refine aG_n ?_ rfl rfl)) ?_
    refine wp_iload_n (pc := 1) dX4_priceFor_1 (by first | rfl | assumption | (repeat first | assumption | rfl | refine aG_n ?_ rfl rfl)) ?_
    refine wp_iload_n (pc := 2) dX4_priceFor_2 (by first | rfl | assumption | (repeat first | assumption | rfl | refine aG_n ?_ rfl rfl)) ?_
    refine wp_iconst (pc := 3) (v := 0) dX4_priceFor_3 (by decide) ?_
    refine wp_cV (pc := 4) dX4_priceFor_4 lk_4_64 rfl (by decide) rfl (by first | rfl | assumption | exact sh_house (by omega) | exact sh_wish (by omega) | exact sh_wor (by omega) | exact sh_bar (by omega) | exact sh_term (by omega) | exact sh_sheet (by omega) | exact sh_items (by omega) | exact sh_sums (by omega)) rfl rfl (c_X4_gained h hd hs (aK_i ?_))
    refine wp_iload_n (pc := 7) dX4_priceFor_7 (by first | rfl | assumption | (repeat first | assumption | rfl | refine aG_n ?_ rfl rfl)) ?_
    refine wp_isub (pc := 8) dX4_priceFor_8 ?_
    refine wp_istore (pc := 9) dX4_priceFor_9 (by decide) ?_
    refine wp_iload_n (pc := 11) dX4_priceFor_11 (by first | rfl | assumption | (repeat first | assumption | rfl | refine aG_n ?_ rfl rfl)) ?_
    refine wp_if_ne (pc := 12) (tgt := 20) dX4_priceFor_12 rfl (fun q => absurd rfl q) (fun _ => ?_)
    refine wp_iload (pc := 15) dX4_priceFor_15 (by first | rfl | assumption | (repeat first | assumption | rfl | refine aG_n ?_ rfl rfl)) ?_
    refine wp_goto (pc := 17) (tgt := 23) dX4_priceFor_17 rfl ?_
    refine wp_ireturn (pc := 23) dX4_priceFor_23 rfl (by first | rfl | decide | assumption) ?_
    refine qEq ?_ k; unfold gnp; rw [if_pos rfl, Int32.sub_zero]
  · rw [if_neg (by decide)] at k
    refine wp_aload_n (pc := 0) dX4_priceFor_0 (by first | rfl | assumption | (repeat first | assumption | rfl | refine aG_n ?_ rfl rfl)) ?_
    refine wp_iload_n (pc := 1) dX4_priceFor_1 (by first | rfl | assumption | (repeat first | assumption | rfl | refine aG_n ?_ rfl rfl)) ?_
    refine wp_iload_n (pc := 2) dX4_priceFor_2 (by first | rfl | assumption | (repeat first | assumption | rfl | refine aG_n ?_ rfl rfl)) ?_
    refine wp_iconst (pc := 3) (v := 0) dX4_priceFor_3 (by decide) ?_
    refine wp_cV (pc := 4) dX4_priceFor_4 lk_4_64 rfl (by decide) rfl (by first | rfl | assumption | exact sh_house (by omega) | exact sh_wish (by omega) | exact sh_wor (by omega) | exact sh_bar (by omega) | exact sh_term (by omega) | exact sh_sheet (by omega) | exact sh_items (by omega) | exact sh_sums (by omega)) rfl rfl (c_X4_gained h hd hs (aK_i ?_))
    refine wp_iload_n (pc := 7) dX4_priceFor_7 (by first | rfl | assumption | (repeat first | assumption | rfl | refine aG_n ?_ rfl rfl)) ?_
    refine wp_isub (pc := 8) dX4_priceFor_8 ?_
    refine wp_istore (pc := 9) dX4_priceFor_9 (by decide) ?_
    refine wp_iload_n (pc := 11) dX4_priceFor_11 (by first | rfl | assumption | (repeat first | assumption | rfl | refine aG_n ?_ rfl rfl)) ?_
    refine wp_if_ne (pc := 12) (tgt := 20) dX4_priceFor_12 rfl (fun _ => ?_) (fun q => absurd q (by decide))
    refine wp_iload (pc := 20) dX4_priceFor_20 (by first | rfl | assumption | (repeat first | assumption | rfl | refine aG_n ?_ rfl rfl)) ?_
    refine wp_ineg (pc := 22) dX4_priceFor_22 ?_
    refine wp_ireturn (pc := 23) dX4_priceFor_23 rfl (by first | rfl | decide | assumption) ?_
    refine qEq ?_ k; unfold gnp; rw [if_neg (by decide), Int32.add_zero]
theorem c_X4_sumOfGains (h : Pr μ P t w) (hs : s < 64) (k : Q (some (.int (gnd μ.1 t w 0 s + gnd μ.1 t w 1 s))) μ) : WP X mX4_sumOfGains 0 (lv_args 0 [.ref P, .int (nI s)]) [] μ Q := by
  have hP := h.1
  refine wp_aload_n (pc := 0) dX4_sumOfGains_0 (by first | rfl | assumption | (repeat first | assumption | rfl | refine aG_n ?_ rfl rfl)) ?_
  refine wp_iconst (pc := 1) (v := 0) dX4_sumOfGains_1 (by decide) ?_
  refine wp_iload_n (pc := 2) dX4_sumOfGains_2 (by first | rfl | assumption | (repeat first | assumption | rfl | refine aG_n ?_ rfl rfl)) ?_
  refine wp_iconst (pc := 3) (v := 0) dX4_sumOfGains_3 (by decide) ?_
  refine wp_cV (pc := 4) dX4_sumOfGains_4 lk_4_64 rfl (by decide) rfl (by first | rfl | assumption | exact sh_house (by omega) | exact sh_wish (by omega) | exact sh_wor (by omega) | exact sh_bar (by omega) | exact sh_term (by omega) | exact sh_sheet (by omega) | exact sh_items (by omega) | exact sh_sums (by omega)) rfl rfl (c_X4_gained (d := 0) h (by decide) hs (aK_i ?_))
  refine wp_aload_n (pc := 7) dX4_sumOfGains_7 (by first | rfl | assumption | (repeat first | assumption | rfl | refine aG_n ?_ rfl rfl)) ?_
  refine wp_iconst (pc := 8) (v := 1) dX4_sumOfGains_8 (by decide) ?_
  refine wp_iload_n (pc := 9) dX4_sumOfGains_9 (by first | rfl | assumption | (repeat first | assumption | rfl | refine aG_n ?_ rfl rfl)) ?_
  refine wp_iconst (pc := 10) (v := 0) dX4_sumOfGains_10 (by decide) ?_
  refine wp_cV (pc := 11) dX4_sumOfGains_11 lk_4_64 rfl (by decide) rfl (by first | rfl | assumption | exact sh_house (by omega) | exact sh_wish (by omega) | exact sh_wor (by omega) | exact sh_bar (by omega) | exact sh_term (by omega) | exact sh_sheet (by omega) | exact sh_items (by omega) | exact sh_sums (by omega)) rfl rfl (c_X4_gained (d := 1) h (by decide) hs (aK_i ?_))
  refine wp_iadd (pc := 14) dX4_sumOfGains_14 ?_
  refine wp_ireturn (pc := 15) dX4_sumOfGains_15 rfl (by first | rfl | decide | assumption) ?_
  refine qEq ?_ k; unfold gnp; rw [if_pos rfl, if_neg (by decide), Int32.sub_zero, Int32.add_zero]
theorem c_X4_evenPrice (h : Pr μ P t w) (hs : s < 64) (k : Q (some (.int ((gnd μ.1 t w 0 s - gnd μ.1 t w 1 s) / 2))) μ) : WP X mX4_evenPrice 0 (lv_args 0 [.ref P, .int (nI s)]) [] μ Q := by
  have hP := h.1
  refine wp_aload_n (pc := 0) dX4_evenPrice_0 (by first | rfl | assumption | (repeat first | assumption | rfl | refine aG_n ?_ rfl rfl)) ?_
  refine wp_iconst (pc := 1) (v := 0) dX4_evenPrice_1 (by decide) ?_
  refine wp_iload_n (pc := 2) dX4_evenPrice_2 (by first | rfl | assumption | (repeat first | assumption | rfl | refine aG_n ?_ rfl rfl)) ?_
  refine wp_iconst (pc := 3) (v := 0) dX4_evenPrice_3 (by decide) ?_
  refine wp_cV (pc := 4) dX4_evenPrice_4 lk_4_64 rfl (by decide) rfl (by first | rfl | assumption | exact sh_house (by omega) | exact sh_wish (by omega) | exact sh_wor (by omega) | exact sh_bar (by omega) | exact sh_term (by omega) | exact sh_sheet (by omega) | exact sh_items (by omega) | exact sh_sums (by omega)) rfl rfl (c_X4_gained (d := 0) h (by decide) hs (aK_i ?_))
  refine wp_aload_n (pc := 7) dX4_evenPrice_7 (by first | rfl | assumption | (repeat first | assumption | rfl | refine aG_n ?_ rfl rfl)) ?_
  refine wp_iconst (pc := 8) (v := 1) dX4_evenPrice_8 (by decide) ?_
  refine wp_iload_n (pc := 9) dX4_evenPrice_9 (by first | rfl | assumption | (repeat first | assumption | rfl | refine aG_n ?_ rfl rfl)) ?_
  refine wp_iconst (pc := 10) (v := 0) dX4_evenPrice_10 (by decide) ?_
  refine wp_cV (pc := 11) dX4_evenPrice_11 lk_4_64 rfl (by decide) rfl (by first | rfl | assumption | exact sh_house (by omega) | exact sh_wish (by omega) | exact sh_wor (by omega) | exact sh_bar (by omega) | exact sh_term (by omega) | exact sh_sheet (by omega) | exact sh_items (by omega) | exact sh_sums (by omega)) rfl rfl (c_X4_gained (d := 1) h (by decide) hs (aK_i ?_))
  refine wp_isub (pc := 14) dX4_evenPrice_14 ?_
  refine wp_iconst (pc := 15) (v := 2) dX4_evenPrice_15 (by decide) ?_
  refine wp_idiv (pc := 16) dX4_evenPrice_16 (by decide) ?_
  refine wp_ireturn (pc := 17) dX4_evenPrice_17 rfl (by first | rfl | decide | assumption) ?_
  refine qEq ?_ k; unfold gnp; rw [if_pos rfl, if_neg (by decide), Int32.sub_zero, Int32.add_zero]
theorem c_X4_isOpenToBoth (h : Pr μ P t w) (hs : s < 64) (kt : opB μ.1 t w s → Q (some (.int 1)) μ) (kf : ¬ opB μ.1 t w s → Q (some (.int 0)) μ) : WP X mX4_isOpenToBoth 0 (lv_args 0 [.ref P, .int (nI s)]) [] μ Q := by
  obtain ⟨hP, hh⟩ := h
  obtain ⟨⟨e0, l0⟩, e1, ⟨w1, w2, w3⟩, -⟩ := hh 0 (by decide)
  obtain ⟨⟨f0, m0⟩, f1, ⟨v1, v2, v3⟩, -⟩ := hh 1 (by decide)
  replace e1 : μ.2 P 4 = w 0 := e1
  replace f1 : μ.2 P 5 = w 1 := f1
  unfold opB at kt kf
  rw [← e1] at w1 w2 w3 kt kf
  rw [← f1] at v1 v2 v3 kt kf
  have ec : (μ.1 P 0 ^^^ nI s).toNatClampNeg = t 0 ^^^ s := by rw [e0, xor6 l0 hs, nI_clamp (Nat.lt_trans (x64 l0 hs) (by decide))]
  have fc : (μ.1 P 1 ^^^ nI s).toNatClampNeg = t 1 ^^^ s := by rw [f0, xor6 m0 hs, nI_clamp (Nat.lt_trans (x64 m0 hs) (by decide))]
  rw [← ec, ← fc] at kt kf
  refine wp_aload_n (pc := 0) dX4_isOpenToBoth_0 (by first | rfl | assumption | (repeat first | assumption | rfl | refine aG_n ?_ rfl rfl)) ?_
  refine wp_getD (pc := 1) dX4_isOpenToBoth_1 fl_4_40 (by first | rfl | assumption | exact sh_house (by omega) | exact sh_wish (by omega) | exact sh_wor (by omega) | exact sh_bar (by omega) | exact sh_term (by omega) | exact sh_sheet (by omega) | exact sh_items (by omega) | exact sh_sums (by omega)) rfl ?_
  refine wp_getR (pc := 4) dX4_isOpenToBoth_4 fl_4_50 (by first | rfl | assumption | exact sh_house (by omega) | exact sh_wish (by omega) | exact sh_wor (by omega) | exact sh_bar (by omega) | exact sh_term (by omega) | exact sh_sheet (by omega) | exact sh_items (by omega) | exact sh_sums (by omega)) rfl ?_
  refine wp_aload_n (pc := 7) dX4_isOpenToBoth_7 (by first | rfl | assumption | (repeat first | assumption | rfl | refine aG_n ?_ rfl rfl)) ?_
  refine wp_getI (pc := 8) dX4_isOpenToBoth_8 fl_4_21 (by first | rfl | assumption | exact sh_house (by omega) | exact sh_wish (by omega) | exact sh_wor (by omega) | exact sh_bar (by omega) | exact sh_term (by omega) | exact sh_sheet (by omega) | exact sh_items (by omega) | exact sh_sums (by omega)) rfl ?_
  refine wp_iload_n (pc := 11) dX4_isOpenToBoth_11 (by first | rfl | assumption | (repeat first | assumption | rfl | refine aG_n ?_ rfl rfl)) ?_
  refine wp_ixor (pc := 12) dX4_isOpenToBoth_12 ?_
  refine wp_zald (pc := 13) dX4_isOpenToBoth_13 (by first | rfl | assumption | exact sh_house (by omega) | exact sh_wish (by omega) | exact sh_wor (by omega) | exact sh_bar (by omega) | exact sh_term (by omega) | exact sh_sheet (by omega) | exact sh_items (by omega) | exact sh_sums (by omega)) (by rw [e0, xor6 l0 hs]; exact vp_in_nI (x64 l0 hs) (by decide)) ?_
  refine wp_if_ne (pc := 14) (tgt := 38) dX4_isOpenToBoth_14 rfl (fun c14_1 => ?_) (fun c14_1 => ?_)
  · refine wp_iconst (pc := 38) (v := 0) dX4_isOpenToBoth_38 (by decide) ?_
    refine wp_ireturn (pc := 39) dX4_isOpenToBoth_39 rfl (by first | rfl | decide | assumption) ?_
    exact kf (fun z => by first | exact absurd z.1 (by assumption) | exact absurd z.2 (by assumption))
  · refine wp_aload_n (pc := 17) dX4_isOpenToBoth_17 (by first | rfl | assumption | (repeat first | assumption | rfl | refine aG_n ?_ rfl rfl)) ?_
    refine wp_getD (pc := 18) dX4_isOpenToBoth_18 fl_4_43 (by first | rfl | assumption | exact sh_house (by omega) | exact sh_wish (by omega) | exact sh_wor (by omega) | exact sh_bar (by omega) | exact sh_term (by omega) | exact sh_sheet (by omega) | exact sh_items (by omega) | exact sh_sums (by omega)) rfl ?_
    refine wp_getR (pc := 21) dX4_isOpenToBoth_21 fl_4_50 (by first | rfl | assumption | exact sh_house (by omega) | exact sh_wish (by omega) | exact sh_wor (by omega) | exact sh_bar (by omega) | exact sh_term (by omega) | exact sh_sheet (by omega) | exact sh_items (by omega) | exact sh_sums (by omega)) rfl ?_
    refine wp_aload_n (pc := 24) dX4_isOpenToBoth_24 (by first | rfl | assumption | (repeat first | assumption | rfl | refine aG_n ?_ rfl rfl)) ?_
    refine wp_getI (pc := 25) dX4_isOpenToBoth_25 fl_4_24 (by first | rfl | assumption | exact sh_house (by omega) | exact sh_wish (by omega) | exact sh_wor (by omega) | exact sh_bar (by omega) | exact sh_term (by omega) | exact sh_sheet (by omega) | exact sh_items (by omega) | exact sh_sums (by omega)) rfl ?_
    refine wp_iload_n (pc := 28) dX4_isOpenToBoth_28 (by first | rfl | assumption | (repeat first | assumption | rfl | refine aG_n ?_ rfl rfl)) ?_
    refine wp_ixor (pc := 29) dX4_isOpenToBoth_29 ?_
    refine wp_zald (pc := 30) dX4_isOpenToBoth_30 (by first | rfl | assumption | exact sh_house (by omega) | exact sh_wish (by omega) | exact sh_wor (by omega) | exact sh_bar (by omega) | exact sh_term (by omega) | exact sh_sheet (by omega) | exact sh_items (by omega) | exact sh_sums (by omega)) (by rw [f0, xor6 m0 hs]; exact vp_in_nI (x64 m0 hs) (by decide)) ?_
    refine wp_if_ne (pc := 31) (tgt := 38) dX4_isOpenToBoth_31 rfl (fun c31_2 => ?_) (fun c31_2 => ?_)
    · refine wp_iconst (pc := 38) (v := 0) dX4_isOpenToBoth_38 (by decide) ?_
      refine wp_ireturn (pc := 39) dX4_isOpenToBoth_39 rfl (by first | rfl | decide | assumption) ?_
      exact kf (fun z => by first | exact absurd z.1 (by assumption) | exact absurd z.2 (by assumption))
    · refine wp_iconst (pc := 34) (v := 1) dX4_isOpenToBoth_34 (by decide) ?_
      refine wp_goto (pc := 35) (tgt := 39) dX4_isOpenToBoth_35 rfl ?_
      refine wp_ireturn (pc := 39) dX4_isOpenToBoth_39 rfl (by first | rfl | decide | assumption) ?_
      exact kt ⟨by assumption, by assumption⟩
theorem c_X4_isGood {p : Int32} (h : Pr μ P t w) (hs : s < 64) (kt : goB μ.1 P t w s p → Q (some (.int 1)) μ) (kf : ¬ goB μ.1 P t w s p → Q (some (.int 0)) μ) : WP X mX4_isGood 0 (lv_args 0 [.ref P, .int (nI s), .int p]) [] μ Q := by
  have hP := h.1
  refine wp_aload_n (pc := 0) dX4_isGood_0 (by first | rfl | assumption | (repeat first | assumption | rfl | refine aG_n ?_ rfl rfl)) ?_
  refine wp_iload_n (pc := 1) dX4_isGood_1 (by first | rfl | assumption | (repeat first | assumption | rfl | refine aG_n ?_ rfl rfl)) ?_
  refine wp_cV (pc := 2) dX4_isGood_2 lk_4_68 rfl (by decide) rfl (by first | rfl | assumption | exact sh_house (by omega) | exact sh_wish (by omega) | exact sh_wor (by omega) | exact sh_bar (by omega) | exact sh_term (by omega) | exact sh_sheet (by omega) | exact sh_items (by omega) | exact sh_sums (by omega)) rfl rfl (c_X4_isOpenToBoth h hs (fun c2_1 => aK_i ?_) (fun c2_1 => aK_i ?_))
  · refine wp_if_eq (pc := 5) (tgt := 44) dX4_isGood_5 rfl (fun q => absurd q (by decide)) (fun _ => ?_)
    refine wp_aload_n (pc := 8) dX4_isGood_8 (by first | rfl | assumption | (repeat first | assumption | rfl | refine aG_n ?_ rfl rfl)) ?_
    refine wp_getI (pc := 9) dX4_isGood_9 fl_4_30 (by first | rfl | assumption | exact sh_house (by omega) | exact sh_wish (by omega) | exact sh_wor (by omega) | exact sh_bar (by omega) | exact sh_term (by omega) | exact sh_sheet (by omega) | exact sh_items (by omega) | exact sh_sums (by omega)) rfl ?_
    refine wp_iload_n (pc := 12) dX4_isGood_12 (by first | rfl | assumption | (repeat first | assumption | rfl | refine aG_n ?_ rfl rfl)) ?_
    refine wp_isub (pc := 13) dX4_isGood_13 ?_
    refine wp_iconst (pc := 14) (v := 0) dX4_isGood_14 (by decide) ?_
    refine wp_sipush (pc := 15) (v := 9999) dX4_isGood_15 (by decide) ?_
    refine wp_cS (pc := 18) dX4_isGood_18 lk_4_72 rfl rfl rfl (c_X11_isWithin (fun c18_2 => aK_i ?_) (fun c18_2 => aK_i ?_))
    · refine wp_if_eq (pc := 21) (tgt := 44) dX4_isGood_21 rfl (fun q => absurd q (by decide)) (fun _ => ?_)
      refine wp_aload_n (pc := 24) dX4_isGood_24 (by first | rfl | assumption | (repeat first | assumption | rfl | refine aG_n ?_ rfl rfl)) ?_
      refine wp_getI (pc := 25) dX4_isGood_25 fl_4_33 (by first | rfl | assumption | exact sh_house (by omega) | exact sh_wish (by omega) | exact sh_wor (by omega) | exact sh_bar (by omega) | exact sh_term (by omega) | exact sh_sheet (by omega) | exact sh_items (by omega) | exact sh_sums (by omega)) rfl ?_
      refine wp_iload_n (pc := 28) dX4_isGood_28 (by first | rfl | assumption | (repeat first | assumption | rfl | refine aG_n ?_ rfl rfl)) ?_
      refine wp_iadd (pc := 29) dX4_isGood_29 ?_
      refine wp_iconst (pc := 30) (v := 0) dX4_isGood_30 (by decide) ?_
      refine wp_sipush (pc := 31) (v := 9999) dX4_isGood_31 (by decide) ?_
      refine wp_cS (pc := 34) dX4_isGood_34 lk_4_72 rfl rfl rfl (c_X11_isWithin (fun c34_3 => aK_i ?_) (fun c34_3 => aK_i ?_))
      · refine wp_if_eq (pc := 37) (tgt := 44) dX4_isGood_37 rfl (fun q => absurd q (by decide)) (fun _ => ?_)
        refine wp_iconst (pc := 40) (v := 1) dX4_isGood_40 (by decide) ?_
        refine wp_goto (pc := 41) (tgt := 45) dX4_isGood_41 rfl ?_
        refine wp_ireturn (pc := 45) dX4_isGood_45 rfl (by first | rfl | decide | assumption) ?_
        exact kt ⟨by assumption, by assumption, by assumption⟩
      · refine wp_if_eq (pc := 37) (tgt := 44) dX4_isGood_37 rfl (fun _ => ?_) (fun q => absurd q (by decide))
        refine wp_iconst (pc := 44) (v := 0) dX4_isGood_44 (by decide) ?_
        refine wp_ireturn (pc := 45) dX4_isGood_45 rfl (by first | rfl | decide | assumption) ?_
        exact kf (fun z => by first | exact absurd z.1 (by assumption) | exact absurd z.2.1 (by assumption) | exact absurd z.2.2 (by assumption))
    · refine wp_if_eq (pc := 21) (tgt := 44) dX4_isGood_21 rfl (fun _ => ?_) (fun q => absurd q (by decide))
      refine wp_iconst (pc := 44) (v := 0) dX4_isGood_44 (by decide) ?_
      refine wp_ireturn (pc := 45) dX4_isGood_45 rfl (by first | rfl | decide | assumption) ?_
      exact kf (fun z => by first | exact absurd z.1 (by assumption) | exact absurd z.2.1 (by assumption) | exact absurd z.2.2 (by assumption))
  · refine wp_if_eq (pc := 5) (tgt := 44) dX4_isGood_5 rfl (fun _ => ?_) (fun q => absurd q (by decide))
    refine wp_iconst (pc := 44) (v := 0) dX4_isGood_44 (by decide) ?_
    refine wp_ireturn (pc := 45) dX4_isGood_45 rfl (by first | rfl | decide | assumption) ?_
    exact kf (fun z => by first | exact absurd z.1 (by assumption) | exact absurd z.2.1 (by assumption) | exact absurd z.2.2 (by assumption))
theorem c_X4_isInPool (h : Pr μ P t w) (kt : nI s &&& ((nI (t 0) ||| nI (t 1)) ^^^ (-1)) = 0 → Q (some (.int 1)) μ) (kf : ¬ nI s &&& ((nI (t 0) ||| nI (t 1)) ^^^ (-1)) = 0 → Q (some (.int 0)) μ) : WP X mX4_isInPool 0 (lv_args 0 [.ref P, .int (nI s)]) [] μ Q := by
  obtain ⟨hP, hh⟩ := h
  obtain ⟨⟨e0, l0⟩, -⟩ := hh 0 (by decide)
  obtain ⟨⟨f0, m0⟩, -⟩ := hh 1 (by decide)
  rw [← e0, ← f0] at kt kf
  refine wp_iload_n (pc := 0) dX4_isInPool_0 (by first | rfl | assumption | (repeat first | assumption | rfl | refine aG_n ?_ rfl rfl)) ?_
  refine wp_aload_n (pc := 1) dX4_isInPool_1 (by first | rfl | assumption | (repeat first | assumption | rfl | refine aG_n ?_ rfl rfl)) ?_
  refine wp_cV (pc := 2) dX4_isInPool_2 lk_4_46 rfl (by decide) rfl (by first | rfl | assumption | exact sh_house (by omega) | exact sh_wish (by omega) | exact sh_wor (by omega) | exact sh_bar (by omega) | exact sh_term (by omega) | exact sh_sheet (by omega) | exact sh_items (by omega) | exact sh_sums (by omega)) rfl rfl ?_
  refine wp_aload_n (pc := 0) dX4_pool_0 (by first | rfl | assumption | (repeat first | assumption | rfl | refine aG_n ?_ rfl rfl)) ?_
  refine wp_getI (pc := 1) dX4_pool_1 fl_4_21 (by first | rfl | assumption | exact sh_house (by omega) | exact sh_wish (by omega) | exact sh_wor (by omega) | exact sh_bar (by omega) | exact sh_term (by omega) | exact sh_sheet (by omega) | exact sh_items (by omega) | exact sh_sums (by omega)) rfl ?_
  refine wp_aload_n (pc := 4) dX4_pool_4 (by first | rfl | assumption | (repeat first | assumption | rfl | refine aG_n ?_ rfl rfl)) ?_
  refine wp_getI (pc := 5) dX4_pool_5 fl_4_24 (by first | rfl | assumption | exact sh_house (by omega) | exact sh_wish (by omega) | exact sh_wor (by omega) | exact sh_bar (by omega) | exact sh_term (by omega) | exact sh_sheet (by omega) | exact sh_items (by omega) | exact sh_sums (by omega)) rfl ?_
  refine wp_ior (pc := 8) dX4_pool_8 ?_
  refine wp_iretK (pc := 9) dX4_pool_9 rfl (by first | rfl | decide | assumption) ?_
  refine wp_iconst (pc := 5) (v := -1) dX4_isInPool_5 (by decide) ?_
  refine wp_ixor (pc := 6) dX4_isInPool_6 ?_
  refine wp_iand (pc := 7) dX4_isInPool_7 ?_
  refine wp_if_ne (pc := 8) (tgt := 15) dX4_isInPool_8 rfl (fun c8_1 => ?_) (fun c8_1 => ?_)
  · refine wp_iconst (pc := 15) (v := 0) dX4_isInPool_15 (by decide) ?_
    refine wp_ireturn (pc := 16) dX4_isInPool_16 rfl (by first | rfl | decide | assumption) ?_
    exact kf (by assumption)
  · refine wp_iconst (pc := 11) (v := 1) dX4_isInPool_11 (by decide) ?_
    refine wp_goto (pc := 12) (tgt := 16) dX4_isInPool_12 rfl ?_
    refine wp_ireturn (pc := 16) dX4_isInPool_16 rfl (by first | rfl | decide | assumption) ?_
    exact kt (by assumption)
end PAIR
/-! the model's small methods -/
section MBASE
variable {X : aX} {μ : Mm} {Q : Option Value → Mm → Prop} {i s : Nat}
theorem m_worth {x : Int32} (hW : I_wish μ.1) (hi : i < 4) (hs : s < 64) (hx : x = nI s) (k : Q (some (.int (μ.1 (57 + 4 * i) s))) μ) : WP X mX12_worthOf 0 (lv_args 0 [.ref 86, .int (nI i), .int x]) [] μ Q := by
  obtain ⟨n, a1, a2, a3, a4, a5⟩ := hW i hi
  subst hx
  exact c_X12_worthOf hi a1 a3 (by rw [← (a5 s hs).1]; exact k)
theorem m_barred {x : Int32} (hW : I_wish μ.1) (hi : i < 4) (hs : s < 64) (hx : x = nI s) (kt : ¬ μ.1 (58 + 4 * i) s = 0 → Q (some (.int 1)) μ) (kf : μ.1 (58 + 4 * i) s = 0 → Q (some (.int 0)) μ) : WP X mX12_isBarred 0 (lv_args 0 [.ref 86, .int (nI i), .int x]) [] μ Q := by
  obtain ⟨n, a1, a2, a3, a4, a5⟩ := hW i hi
  subst hx
  have h5 := (a5 s hs).2
  refine c_X12_isBarred hi a1 a3 ?_
  unfold b2i
  rw [← h5]
  by_cases c : bF μ.1 i (nI s) n = true
  · rw [if_pos c] at h5
    rw [h5]; exact kt (by rw [h5]; decide)
  · rw [if_neg c] at h5
    rw [h5]; exact kf h5
theorem m_bit01 (hW : I_wish μ.1) (hi : i < 4) (hs : s < 64) : μ.1 (58 + 4 * i) s = 0 ∨ μ.1 (58 + 4 * i) s = 1 := by
  obtain ⟨n, a1, a2, a3, a4, a5⟩ := hW i hi
  rw [(a5 s hs).2]
  split
  · exact Or.inr rfl
  · exact Or.inl rfl
theorem m_more {x : Int32} (hW : I_wish μ.1) (hi : i < 4) (hs : s < 64) (hx : x = nI s) (k : Q (some (.int (μ.1 (57 + 4 * i) (th μ.1 i ^^^ s) - μ.1 (57 + 4 * i) (th μ.1 i)))) μ) : WP X mX12_moreBy 0 (lv_args 0 [.ref 86, .int (nI i), .int x]) [] μ Q := by
  subst hx
  have ht := th_lt μ.1 i
  refine wp_aload_n (pc := 0) dX12_moreBy_0 (by first | rfl | assumption | (repeat first | assumption | rfl | refine aG_n ?_ rfl rfl)) ?_
  refine wp_iload_n (pc := 1) dX12_moreBy_1 (by first | rfl | assumption | (repeat first | assumption | rfl | refine aG_n ?_ rfl rfl)) ?_
  refine wp_cV (pc := 2) dX12_moreBy_2 lk_12_208 rfl (by decide) rfl (by first | rfl | assumption | exact sh_house (by omega) | exact sh_wish (by omega) | exact sh_wor (by omega) | exact sh_bar (by omega) | exact sh_term (by omega) | exact sh_sheet (by omega) | exact sh_items (by omega) | exact sh_sums (by omega)) rfl rfl (c_X12_thingsOf (aK_i ?_))
  refine wp_istore_n (pc := 5) dX12_moreBy_5 (by decide) ?_
  refine wp_aload_n (pc := 6) dX12_moreBy_6 (by first | rfl | assumption | (repeat first | assumption | rfl | refine aG_n ?_ rfl rfl)) ?_
  refine wp_iload_n (pc := 7) dX12_moreBy_7 (by first | rfl | assumption | (repeat first | assumption | rfl | refine aG_n ?_ rfl rfl)) ?_
  refine wp_iload_n (pc := 8) dX12_moreBy_8 (by first | rfl | assumption | (repeat first | assumption | rfl | refine aG_n ?_ rfl rfl)) ?_
  refine wp_iload_n (pc := 9) dX12_moreBy_9 (by first | rfl | assumption | (repeat first | assumption | rfl | refine aG_n ?_ rfl rfl)) ?_
  refine wp_ixor (pc := 10) dX12_moreBy_10 ?_
  refine wp_cV (pc := 11) dX12_moreBy_11 lk_12_200 rfl (by decide) rfl (by first | rfl | assumption | exact sh_house (by omega) | exact sh_wish (by omega) | exact sh_wor (by omega) | exact sh_bar (by omega) | exact sh_term (by omega) | exact sh_sheet (by omega) | exact sh_items (by omega) | exact sh_sums (by omega)) rfl rfl (m_worth hW hi (x64 ht hs) (xor6 ht hs) (aK_i ?_))
  refine wp_aload_n (pc := 14) dX12_moreBy_14 (by first | rfl | assumption | (repeat first | assumption | rfl | refine aG_n ?_ rfl rfl)) ?_
  refine wp_iload_n (pc := 15) dX12_moreBy_15 (by first | rfl | assumption | (repeat first | assumption | rfl | refine aG_n ?_ rfl rfl)) ?_
  refine wp_iload_n (pc := 16) dX12_moreBy_16 (by first | rfl | assumption | (repeat first | assumption | rfl | refine aG_n ?_ rfl rfl)) ?_
  refine wp_cV (pc := 17) dX12_moreBy_17 lk_12_200 rfl (by decide) rfl (by first | rfl | assumption | exact sh_house (by omega) | exact sh_wish (by omega) | exact sh_wor (by omega) | exact sh_bar (by omega) | exact sh_term (by omega) | exact sh_sheet (by omega) | exact sh_items (by omega) | exact sh_sums (by omega)) rfl rfl (m_worth hW hi ht rfl (aK_i ?_))
  refine wp_isub (pc := 20) dX12_moreBy_20 ?_
  refine wp_ireturn (pc := 21) dX12_moreBy_21 rfl (by first | rfl | decide | assumption) ?_
  exact k
theorem m_free {x : Int32} (hW : I_wish μ.1) (hi : i < 4) (hs : s < 64) (hx : x = nI s) (kt : μ.1 (58 + 4 * i) (th μ.1 i ^^^ s) = 0 → Q (some (.int 1)) μ) (kf : ¬ μ.1 (58 + 4 * i) (th μ.1 i ^^^ s) = 0 → Q (some (.int 0)) μ) : WP X mX12_isFree 0 (lv_args 0 [.ref 86, .int (nI i), .int x]) [] μ Q := by
  subst hx
  have ht := th_lt μ.1 i
  refine wp_aload_n (pc := 0) dX12_isFree_0 (by first | rfl | assumption | (repeat first | assumption | rfl | refine aG_n ?_ rfl rfl)) ?_
  refine wp_iload_n (pc := 1) dX12_isFree_1 (by first | rfl | assumption | (repeat first | assumption | rfl | refine aG_n ?_ rfl rfl)) ?_
  refine wp_aload_n (pc := 2) dX12_isFree_2 (by first | rfl | assumption | (repeat first | assumption | rfl | refine aG_n ?_ rfl rfl)) ?_
  refine wp_iload_n (pc := 3) dX12_isFree_3 (by first | rfl | assumption | (repeat first | assumption | rfl | refine aG_n ?_ rfl rfl)) ?_
  refine wp_cV (pc := 4) dX12_isFree_4 lk_12_208 rfl (by decide) rfl (by first | rfl | assumption | exact sh_house (by omega) | exact sh_wish (by omega) | exact sh_wor (by omega) | exact sh_bar (by omega) | exact sh_term (by omega) | exact sh_sheet (by omega) | exact sh_items (by omega) | exact sh_sums (by omega)) rfl rfl (c_X12_thingsOf (aK_i ?_))
  refine wp_iload_n (pc := 7) dX12_isFree_7 (by first | rfl | assumption | (repeat first | assumption | rfl | refine aG_n ?_ rfl rfl)) ?_
  refine wp_ixor (pc := 8) dX12_isFree_8 ?_
  refine wp_cV (pc := 9) dX12_isFree_9 lk_12_204 rfl (by decide) rfl (by first | rfl | assumption | exact sh_house (by omega) | exact sh_wish (by omega) | exact sh_wor (by omega) | exact sh_bar (by omega) | exact sh_term (by omega) | exact sh_sheet (by omega) | exact sh_items (by omega) | exact sh_sums (by omega)) rfl rfl (m_barred hW hi (x64 ht hs) (xor6 ht hs) (fun c9_1 => aK_i ?_) (fun c9_1 => aK_i ?_))
  · refine wp_if_ne (pc := 12) (tgt := 19) dX12_isFree_12 rfl (fun _ => ?_) (fun q => absurd q (by decide))
    refine wp_iconst (pc := 19) (v := 0) dX12_isFree_19 (by decide) ?_
    refine wp_ireturn (pc := 20) dX12_isFree_20 rfl (by first | rfl | decide | assumption) ?_
    exact kf (by assumption)
  · refine wp_if_ne (pc := 12) (tgt := 19) dX12_isFree_12 rfl (fun q => absurd q (by decide)) (fun _ => ?_)
    refine wp_iconst (pc := 15) (v := 1) dX12_isFree_15 (by decide) ?_
    refine wp_goto (pc := 16) (tgt := 20) dX12_isFree_16 rfl ?_
    refine wp_ireturn (pc := 20) dX12_isFree_20 rfl (by first | rfl | decide | assumption) ?_
    exact kt (by assumption)
def goM (M : MM) (a b s : Nat) (p : Int32) : Prop := M (58 + 4 * a) (th M a ^^^ s) = 0 ∧ M (58 + 4 * b) (th M b ^^^ s) = 0 ∧ inR (M 88 a - p) 0 9999 ∧ inR (M 88 b + p) 0 9999
theorem m_good {a b : Nat} {x p : Int32} (hW : I_wish μ.1) (ha : a < 4) (hb : b < 4) (hs : s < 64) (hx : x = nI s) (kt : goM μ.1 a b s p → Q (some (.int 1)) μ) (kf : ¬ goM μ.1 a b s p → Q (some (.int 0)) μ) : WP X mX12_isGood 0 (lv_args 0 [.ref 86, .int (nI a), .int (nI b), .int x, .int p]) [] μ Q := by
  subst hx
  have ea : (nI a).toNatClampNeg = a := nI_clamp (by omega)
  have eb : (nI b).toNatClampNeg = b := nI_clamp (by omega)
  unfold goM at kt kf
  rw [← ea, ← eb] at kt kf
  simp only [ea, eb] at kt kf
  refine wp_aload_n (pc := 0) dX12_isGood_0 (by first | rfl | assumption | (repeat first | assumption | rfl | refine aG_n ?_ rfl rfl)) ?_
  refine wp_iload_n (pc := 1) dX12_isGood_1 (by first | rfl | assumption | (repeat first | assumption | rfl | refine aG_n ?_ rfl rfl)) ?_
  refine wp_iload_n (pc := 2) dX12_isGood_2 (by first | rfl | assumption | (repeat first | assumption | rfl | refine aG_n ?_ rfl rfl)) ?_
  refine wp_cV (pc := 3) dX12_isGood_3 lk_12_227 rfl (by decide) rfl (by first | rfl | assumption | exact sh_house (by omega) | exact sh_wish (by omega) | exact sh_wor (by omega) | exact sh_bar (by omega) | exact sh_term (by omega) | exact sh_sheet (by omega) | exact sh_items (by omega) | exact sh_sums (by omega)) rfl rfl (m_free hW ha hs rfl (fun c3_1 => aK_i ?_) (fun c3_1 => aK_i ?_))
  · refine wp_if_eq (pc := 6) (tgt := 62) dX12_isGood_6 rfl (fun q => absurd q (by decide)) (fun _ => ?_)
    refine wp_aload_n (pc := 9) dX12_isGood_9 (by first | rfl | assumption | (repeat first | assumption | rfl | refine aG_n ?_ rfl rfl)) ?_
    refine wp_iload_n (pc := 10) dX12_isGood_10 (by first | rfl | assumption | (repeat first | assumption | rfl | refine aG_n ?_ rfl rfl)) ?_
    refine wp_iload_n (pc := 11) dX12_isGood_11 (by first | rfl | assumption | (repeat first | assumption | rfl | refine aG_n ?_ rfl rfl)) ?_
    refine wp_cV (pc := 12) dX12_isGood_12 lk_12_227 rfl (by decide) rfl (by first | rfl | assumption | exact sh_house (by omega) | exact sh_wish (by omega) | exact sh_wor (by omega) | exact sh_bar (by omega) | exact sh_term (by omega) | exact sh_sheet (by omega) | exact sh_items (by omega) | exact sh_sums (by omega)) rfl rfl (m_free hW hb hs rfl (fun c12_2 => aK_i ?_) (fun c12_2 => aK_i ?_))
    · refine wp_if_eq (pc := 15) (tgt := 62) dX12_isGood_15 rfl (fun q => absurd q (by decide)) (fun _ => ?_)
      refine wp_aload_n (pc := 18) dX12_isGood_18 (by first | rfl | assumption | (repeat first | assumption | rfl | refine aG_n ?_ rfl rfl)) ?_
      refine wp_getR (pc := 19) dX12_isGood_19 fl_12_13 (by first | rfl | assumption | exact sh_house (by omega) | exact sh_wish (by omega) | exact sh_wor (by omega) | exact sh_bar (by omega) | exact sh_term (by omega) | exact sh_sheet (by omega) | exact sh_items (by omega) | exact sh_sums (by omega)) rfl ?_
      refine wp_iload_n (pc := 22) dX12_isGood_22 (by first | rfl | assumption | (repeat first | assumption | rfl | refine aG_n ?_ rfl rfl)) ?_
      refine wp_iald (pc := 23) dX12_isGood_23 (by first | rfl | assumption | exact sh_house (by omega) | exact sh_wish (by omega) | exact sh_wor (by omega) | exact sh_bar (by omega) | exact sh_term (by omega) | exact sh_sheet (by omega) | exact sh_items (by omega) | exact sh_sums (by omega)) (vp_in_nI (by omega) (by decide)) ?_
      refine wp_iload (pc := 24) dX12_isGood_24 (by first | rfl | assumption | (repeat first | assumption | rfl | refine aG_n ?_ rfl rfl)) ?_
      refine wp_isub (pc := 26) dX12_isGood_26 ?_
      refine wp_i2l (pc := 27) dX12_isGood_27 ?_
      refine wp_lconst (pc := 28) (v := 0) dX12_isGood_28 (by decide) ?_
      refine wp_ldc2 (pc := 29) dX12_isGood_29 cl_12_151 ?_
      refine wp_cS (pc := 32) dX12_isGood_32 lk_12_133 rfl rfl rfl (c_X12_in (fun c32_3 => aK_i ?_) (fun c32_3 => aK_i ?_))
      · refine wp_if_eq (pc := 35) (tgt := 62) dX12_isGood_35 rfl (fun q => absurd q (by decide)) (fun _ => ?_)
        refine wp_aload_n (pc := 38) dX12_isGood_38 (by first | rfl | assumption | (repeat first | assumption | rfl | refine aG_n ?_ rfl rfl)) ?_
        refine wp_getR (pc := 39) dX12_isGood_39 fl_12_13 (by first | rfl | assumption | exact sh_house (by omega) | exact sh_wish (by omega) | exact sh_wor (by omega) | exact sh_bar (by omega) | exact sh_term (by omega) | exact sh_sheet (by omega) | exact sh_items (by omega) | exact sh_sums (by omega)) rfl ?_
        refine wp_iload_n (pc := 42) dX12_isGood_42 (by first | rfl | assumption | (repeat first | assumption | rfl | refine aG_n ?_ rfl rfl)) ?_
        refine wp_iald (pc := 43) dX12_isGood_43 (by first | rfl | assumption | exact sh_house (by omega) | exact sh_wish (by omega) | exact sh_wor (by omega) | exact sh_bar (by omega) | exact sh_term (by omega) | exact sh_sheet (by omega) | exact sh_items (by omega) | exact sh_sums (by omega)) (vp_in_nI (by omega) (by decide)) ?_
        refine wp_iload (pc := 44) dX12_isGood_44 (by first | rfl | assumption | (repeat first | assumption | rfl | refine aG_n ?_ rfl rfl)) ?_
        refine wp_iadd (pc := 46) dX12_isGood_46 ?_
        refine wp_i2l (pc := 47) dX12_isGood_47 ?_
        refine wp_lconst (pc := 48) (v := 0) dX12_isGood_48 (by decide) ?_
        refine wp_ldc2 (pc := 49) dX12_isGood_49 cl_12_151 ?_
        refine wp_cS (pc := 52) dX12_isGood_52 lk_12_133 rfl rfl rfl (c_X12_in (fun c52_4 => aK_i ?_) (fun c52_4 => aK_i ?_))
        · refine wp_if_eq (pc := 55) (tgt := 62) dX12_isGood_55 rfl (fun q => absurd q (by decide)) (fun _ => ?_)
          refine wp_iconst (pc := 58) (v := 1) dX12_isGood_58 (by decide) ?_
          refine wp_goto (pc := 59) (tgt := 63) dX12_isGood_59 rfl ?_
          refine wp_ireturn (pc := 63) dX12_isGood_63 rfl (by first | rfl | decide | assumption) ?_
          simp only [ea, eb, w_int] at *; exact kt ⟨by assumption, by assumption, by assumption, by assumption⟩
        · refine wp_if_eq (pc := 55) (tgt := 62) dX12_isGood_55 rfl (fun _ => ?_) (fun q => absurd q (by decide))
          refine wp_iconst (pc := 62) (v := 0) dX12_isGood_62 (by decide) ?_
          refine wp_ireturn (pc := 63) dX12_isGood_63 rfl (by first | rfl | decide | assumption) ?_
          simp only [ea, eb, w_int] at *; exact kf (fun z => by first | exact absurd z.1 (by assumption) | exact absurd z.2.1 (by assumption) | exact absurd z.2.2.1 (by assumption) | exact absurd z.2.2.2 (by assumption))
      · refine wp_if_eq (pc := 35) (tgt := 62) dX12_isGood_35 rfl (fun _ => ?_) (fun q => absurd q (by decide))
        refine wp_iconst (pc := 62) (v := 0) dX12_isGood_62 (by decide) ?_
        refine wp_ireturn (pc := 63) dX12_isGood_63 rfl (by first | rfl | decide | assumption) ?_
        simp only [ea, eb, w_int] at *; exact kf (fun z => by first | exact absurd z.1 (by assumption) | exact absurd z.2.1 (by assumption) | exact absurd z.2.2.1 (by assumption) | exact absurd z.2.2.2 (by assumption))
    · refine wp_if_eq (pc := 15) (tgt := 62) dX12_isGood_15 rfl (fun _ => ?_) (fun q => absurd q (by decide))
      refine wp_iconst (pc := 62) (v := 0) dX12_isGood_62 (by decide) ?_
      refine wp_ireturn (pc := 63) dX12_isGood_63 rfl (by first | rfl | decide | assumption) ?_
      simp only [ea, eb, w_int] at *; exact kf (fun z => by first | exact absurd z.1 (by assumption) | exact absurd z.2.1 (by assumption) | exact absurd z.2.2.1 (by assumption) | exact absurd z.2.2.2 (by assumption))
  · refine wp_if_eq (pc := 6) (tgt := 62) dX12_isGood_6 rfl (fun _ => ?_) (fun q => absurd q (by decide))
    refine wp_iconst (pc := 62) (v := 0) dX12_isGood_62 (by decide) ?_
    refine wp_ireturn (pc := 63) dX12_isGood_63 rfl (by first | rfl | decide | assumption) ?_
    simp only [ea, eb, w_int] at *; exact kf (fun z => by first | exact absurd z.1 (by assumption) | exact absurd z.2.1 (by assumption) | exact absurd z.2.2.1 (by assumption) | exact absurd z.2.2.2 (by assumption))
def exE (M : MM) (a b s p : Int32) : Prop := ∃ i j u : Nat, i < 4 ∧ j < 4 ∧ i ≠ j ∧ u < 64 ∧ a = nI i ∧ b = nI j ∧ s = nI u ∧ inR p (-999) 999 ∧ nI u &&& ((nI (th M i) ||| nI (th M j)) ^^^ (-1)) = 0
theorem exE_mk {M : MM} {i j u : Nat} {p : Int32} (h1 : i < 4) (h2 : j < 4) (h3 : i ≠ j) (h4 : u < 64) (h5 : inR p (-999) 999) : exE M (nI i) (nI j) (nI u) p ↔ nI u &&& ((nI (th M i) ||| nI (th M j)) ^^^ (-1)) = 0 := by
  constructor
  · rintro ⟨i', j', u', a1, a2, a3, a4, a5, a6, a7, a8, a9⟩
    rw [(nI_eq (by omega) (by omega)).mp a5, (nI_eq (by omega) (by omega)).mp a6, a7]; exact a9
  · exact fun h => ⟨i, j, u, h1, h2, h3, h4, rfl, rfl, rfl, h5, h⟩
theorem c_X11_isExchange {a b v p : Int32} (hO : I_own μ.1) (kt : exE μ.1 a b v p → Q (some (.int 1)) μ) (kf : ¬ exE μ.1 a b v p → Q (some (.int 0)) μ) : WP X mX11_isExchange 0 (lv_args 0 [.ref 0, .int a, .int b, .int v, .int p]) [] μ Q := by
  by_cases c1 : inR a 0 3 ∧ inR b 0 3 ∧ a ≠ b
  · by_cases c2 : inR v 0 63
    · by_cases c3 : inR p (-999) 999
      · obtain ⟨i, hi, rfl⟩ := inR_of (n := 3) c1.1
        obtain ⟨j, hj, rfl⟩ := inR_of (n := 3) c1.2.1
        obtain ⟨u, hu, rfl⟩ := inR_of (n := 63) c2
        have hij : i ≠ j := fun z => c1.2.2 (by rw [z])
        rw [exE_mk (by omega) (by omega) hij (by omega) c3, ← hO.2 i (by omega), ← hO.2 j (by omega)] at kt kf
        refine wp_iload_n (pc := 0) dX11_isExchange_0 (by first | rfl | assumption | (repeat first | assumption | rfl | refine aG_n ?_ rfl rfl)) ?_
        refine wp_iload_n (pc := 1) dX11_isExchange_1 (by first | rfl | assumption | (repeat first | assumption | rfl | refine aG_n ?_ rfl rfl)) ?_
        refine wp_cS (pc := 2) dX11_isExchange_2 lk_11_183 rfl rfl rfl (c_X11_isTwoHouses (fun _ => aK_i ?_) (fun q => absurd c1 q))
        refine wp_if_eq (pc := 5) (tgt := 53) dX11_isExchange_5 rfl (fun q => absurd q (by decide)) (fun _ => ?_)
        refine wp_iload_n (pc := 8) dX11_isExchange_8 (by first | rfl | assumption | (repeat first | assumption | rfl | refine aG_n ?_ rfl rfl)) ?_
        refine wp_cS (pc := 9) dX11_isExchange_9 lk_11_138 rfl rfl rfl (c_X11_isSet (fun _ => aK_i ?_) (fun q => absurd c2 q))
        refine wp_if_eq (pc := 12) (tgt := 53) dX11_isExchange_12 rfl (fun q => absurd q (by decide)) (fun _ => ?_)
        refine wp_iload (pc := 15) dX11_isExchange_15 (by first | rfl | assumption | (repeat first | assumption | rfl | refine aG_n ?_ rfl rfl)) ?_
        refine wp_cS (pc := 17) dX11_isExchange_17 lk_11_196 rfl rfl rfl (c_X11_isPrice (fun _ => aK_i ?_) (fun q => absurd c3 q))
        refine wp_if_eq (pc := 20) (tgt := 53) dX11_isExchange_20 rfl (fun q => absurd q (by decide)) (fun _ => ?_)
        refine wp_iload_n (pc := 23) dX11_isExchange_23 (by first | rfl | assumption | (repeat first | assumption | rfl | refine aG_n ?_ rfl rfl)) ?_
        refine wp_aload_n (pc := 24) dX11_isExchange_24 (by first | rfl | assumption | (repeat first | assumption | rfl | refine aG_n ?_ rfl rfl)) ?_
        refine wp_getR (pc := 25) dX11_isExchange_25 fl_11_11 (by first | rfl | assumption | exact sh_house (by omega) | exact sh_wish (by omega) | exact sh_wor (by omega) | exact sh_bar (by omega) | exact sh_term (by omega) | exact sh_sheet (by omega) | exact sh_items (by omega) | exact sh_sums (by omega)) rfl ?_
        refine wp_iload_n (pc := 28) dX11_isExchange_28 (by first | rfl | assumption | (repeat first | assumption | rfl | refine aG_n ?_ rfl rfl)) ?_
        refine wp_aald (pc := 29) dX11_isExchange_29 (by first | rfl | assumption | exact sh_house (by omega) | exact sh_wish (by omega) | exact sh_wor (by omega) | exact sh_bar (by omega) | exact sh_term (by omega) | exact sh_sheet (by omega) | exact sh_items (by omega) | exact sh_sums (by omega)) (vp_in_nI (by omega) (by decide)) (by decide) (el_house (by omega)) ?_
        refine wp_getI (pc := 30) dX11_isExchange_30 fl_11_71 (by first | rfl | assumption | exact sh_house (by omega) | exact sh_wish (by omega) | exact sh_wor (by omega) | exact sh_bar (by omega) | exact sh_term (by omega) | exact sh_sheet (by omega) | exact sh_items (by omega) | exact sh_sums (by omega)) rfl ?_
        refine wp_aload_n (pc := 33) dX11_isExchange_33 (by first | rfl | assumption | (repeat first | assumption | rfl | refine aG_n ?_ rfl rfl)) ?_
        refine wp_getR (pc := 34) dX11_isExchange_34 fl_11_11 (by first | rfl | assumption | exact sh_house (by omega) | exact sh_wish (by omega) | exact sh_wor (by omega) | exact sh_bar (by omega) | exact sh_term (by omega) | exact sh_sheet (by omega) | exact sh_items (by omega) | exact sh_sums (by omega)) rfl ?_
        refine wp_iload_n (pc := 37) dX11_isExchange_37 (by first | rfl | assumption | (repeat first | assumption | rfl | refine aG_n ?_ rfl rfl)) ?_
        refine wp_aald (pc := 38) dX11_isExchange_38 (by first | rfl | assumption | exact sh_house (by omega) | exact sh_wish (by omega) | exact sh_wor (by omega) | exact sh_bar (by omega) | exact sh_term (by omega) | exact sh_sheet (by omega) | exact sh_items (by omega) | exact sh_sums (by omega)) (vp_in_nI (by omega) (by decide)) (by decide) (el_house (by omega)) ?_
        refine wp_getI (pc := 39) dX11_isExchange_39 fl_11_71 (by first | rfl | assumption | exact sh_house (by omega) | exact sh_wish (by omega) | exact sh_wor (by omega) | exact sh_bar (by omega) | exact sh_term (by omega) | exact sh_sheet (by omega) | exact sh_items (by omega) | exact sh_sums (by omega)) rfl ?_
        refine wp_ior (pc := 42) dX11_isExchange_42 ?_
        refine wp_iconst (pc := 43) (v := -1) dX11_isExchange_43 (by decide) ?_
        refine wp_ixor (pc := 44) dX11_isExchange_44 ?_
        refine wp_iand (pc := 45) dX11_isExchange_45 ?_
        refine wp_if_ne (pc := 46) (tgt := 53) dX11_isExchange_46 rfl (fun c46_1 => ?_) (fun c46_1 => ?_)
        · refine wp_iconst (pc := 53) (v := 0) dX11_isExchange_53 (by decide) ?_
          refine wp_ireturn (pc := 54) dX11_isExchange_54 rfl (by first | rfl | decide | assumption) ?_
          exact kf (by assumption)
        · refine wp_iconst (pc := 49) (v := 1) dX11_isExchange_49 (by decide) ?_
          refine wp_goto (pc := 50) (tgt := 54) dX11_isExchange_50 rfl ?_
          refine wp_ireturn (pc := 54) dX11_isExchange_54 rfl (by first | rfl | decide | assumption) ?_
          exact kt (by assumption)
      · refine wp_iload_n (pc := 0) dX11_isExchange_0 (by first | rfl | assumption | (repeat first | assumption | rfl | refine aG_n ?_ rfl rfl)) ?_
        refine wp_iload_n (pc := 1) dX11_isExchange_1 (by first | rfl | assumption | (repeat first | assumption | rfl | refine aG_n ?_ rfl rfl)) ?_
        refine wp_cS (pc := 2) dX11_isExchange_2 lk_11_183 rfl rfl rfl (c_X11_isTwoHouses (fun _ => aK_i ?_) (fun q => absurd c1 q))
        refine wp_if_eq (pc := 5) (tgt := 53) dX11_isExchange_5 rfl (fun q => absurd q (by decide)) (fun _ => ?_)
        refine wp_iload_n (pc := 8) dX11_isExchange_8 (by first | rfl | assumption | (repeat first | assumption | rfl | refine aG_n ?_ rfl rfl)) ?_
        refine wp_cS (pc := 9) dX11_isExchange_9 lk_11_138 rfl rfl rfl (c_X11_isSet (fun _ => aK_i ?_) (fun q => absurd c2 q))
        refine wp_if_eq (pc := 12) (tgt := 53) dX11_isExchange_12 rfl (fun q => absurd q (by decide)) (fun _ => ?_)
        refine wp_iload (pc := 15) dX11_isExchange_15 (by first | rfl | assumption | (repeat first | assumption | rfl | refine aG_n ?_ rfl rfl)) ?_
        refine wp_cS (pc := 17) dX11_isExchange_17 lk_11_196 rfl rfl rfl (c_X11_isPrice (fun q => absurd q c3) (fun _ => aK_i ?_))
        refine wp_if_eq (pc := 20) (tgt := 53) dX11_isExchange_20 rfl (fun _ => ?_) (fun q => absurd q (by decide))
        refine wp_iconst (pc := 53) (v := 0) dX11_isExchange_53 (by decide) ?_
        refine wp_ireturn (pc := 54) dX11_isExchange_54 rfl (by first | rfl | decide | assumption) ?_
        exact kf (fun ⟨i, j, u, a1, a2, a3, a4, a5, a6, a7, a8, a9⟩ => c3 a8)
    · refine wp_iload_n (pc := 0) dX11_isExchange_0 (by first | rfl | assumption | (repeat first | assumption | rfl | refine aG_n ?_ rfl rfl)) ?_
      refine wp_iload_n (pc := 1) dX11_isExchange_1 (by first | rfl | assumption | (repeat first | assumption | rfl | refine aG_n ?_ rfl rfl)) ?_
      refine wp_cS (pc := 2) dX11_isExchange_2 lk_11_183 rfl rfl rfl (c_X11_isTwoHouses (fun _ => aK_i ?_) (fun q => absurd c1 q))
      refine wp_if_eq (pc := 5) (tgt := 53) dX11_isExchange_5 rfl (fun q => absurd q (by decide)) (fun _ => ?_)
      refine wp_iload_n (pc := 8) dX11_isExchange_8 (by first | rfl | assumption | (repeat first | assumption | rfl | refine aG_n ?_ rfl rfl)) ?_
      refine wp_cS (pc := 9) dX11_isExchange_9 lk_11_138 rfl rfl rfl (c_X11_isSet (fun q => absurd q c2) (fun _ => aK_i ?_))
      refine wp_if_eq (pc := 12) (tgt := 53) dX11_isExchange_12 rfl (fun _ => ?_) (fun q => absurd q (by decide))
      refine wp_iconst (pc := 53) (v := 0) dX11_isExchange_53 (by decide) ?_
      refine wp_ireturn (pc := 54) dX11_isExchange_54 rfl (by first | rfl | decide | assumption) ?_
      exact kf (fun ⟨i, j, u, a1, a2, a3, a4, a5, a6, a7, a8, a9⟩ => c2 (by rw [a7]; exact inR_nI (n := 63) (by omega) (by decide)))
  · refine wp_iload_n (pc := 0) dX11_isExchange_0 (by first | rfl | assumption | (repeat first | assumption | rfl | refine aG_n ?_ rfl rfl)) ?_
    refine wp_iload_n (pc := 1) dX11_isExchange_1 (by first | rfl | assumption | (repeat first | assumption | rfl | refine aG_n ?_ rfl rfl)) ?_
    refine wp_cS (pc := 2) dX11_isExchange_2 lk_11_183 rfl rfl rfl (c_X11_isTwoHouses (fun q => absurd q c1) (fun _ => aK_i ?_))
    refine wp_if_eq (pc := 5) (tgt := 53) dX11_isExchange_5 rfl (fun _ => ?_) (fun q => absurd q (by decide))
    refine wp_iconst (pc := 53) (v := 0) dX11_isExchange_53 (by decide) ?_
    refine wp_ireturn (pc := 54) dX11_isExchange_54 rfl (by first | rfl | decide | assumption) ?_
    exact kf (fun ⟨i, j, u, a1, a2, a3, a4, a5, a6, a7, a8, a9⟩ => c1 ⟨by rw [a5]; exact inR_nI (n := 3) (by omega) (by decide), by rw [a6]; exact inR_nI (n := 3) (by omega) (by decide), by rw [a5, a6]; intro z; exact a3 ((nI_eq (by omega) (by omega)).mp z)⟩)
theorem c_X12_isExchange {a b v p : Int32} (kt : exE μ.1 a b v p → Q (some (.int 1)) μ) (kf : ¬ exE μ.1 a b v p → Q (some (.int 0)) μ) : WP X mX12_isExchange 0 (lv_args 0 [.ref 86, .int a, .int b, .int v, .int p]) [] μ Q := by
  by_cases c1 : inR a 0 3
  · by_cases c1b : inR b 0 3
    · by_cases c1c : a = b
      · refine wp_iload_n (pc := 0) dX12_isExchange_0 (by first | rfl | assumption | (repeat first | assumption | rfl | refine aG_n ?_ rfl rfl)) ?_
        refine wp_cS (pc := 1) dX12_isExchange_1 lk_12_143 rfl rfl rfl (c_X12_isHouse (fun _ => aK_i ?_) (fun q => absurd c1 q))
        refine wp_if_eq (pc := 4) (tgt := 63) dX12_isExchange_4 rfl (fun q => absurd q (by decide)) (fun _ => ?_)
        refine wp_iload_n (pc := 7) dX12_isExchange_7 (by first | rfl | assumption | (repeat first | assumption | rfl | refine aG_n ?_ rfl rfl)) ?_
        refine wp_cS (pc := 8) dX12_isExchange_8 lk_12_143 rfl rfl rfl (c_X12_isHouse (fun _ => aK_i ?_) (fun q => absurd c1b q))
        refine wp_if_eq (pc := 11) (tgt := 63) dX12_isExchange_11 rfl (fun q => absurd q (by decide)) (fun _ => ?_)
        refine wp_iload_n (pc := 14) dX12_isExchange_14 (by first | rfl | assumption | (repeat first | assumption | rfl | refine aG_n ?_ rfl rfl)) ?_
        refine wp_iload_n (pc := 15) dX12_isExchange_15 (by first | rfl | assumption | (repeat first | assumption | rfl | refine aG_n ?_ rfl rfl)) ?_
        refine wp_icmp_eq (pc := 16) (tgt := 63) dX12_isExchange_16 rfl (fun _ => ?_) (fun q => absurd c1c q)
        refine wp_iconst (pc := 63) (v := 0) dX12_isExchange_63 (by decide) ?_
        refine wp_ireturn (pc := 64) dX12_isExchange_64 rfl (by first | rfl | decide | assumption) ?_
        exact kf (fun ⟨i, j, u, a1, a2, a3, a4, a5, a6, a7, a8, a9⟩ => a3 ((nI_eq (by omega) (by omega)).mp (by rw [← a5, ← a6]; exact c1c)))
      · by_cases c2 : inR v 0 63
        · by_cases c3 : inR p (-999) 999
          · obtain ⟨i, hi, rfl⟩ := inR_of (n := 3) c1
            obtain ⟨j, hj, rfl⟩ := inR_of (n := 3) c1b
            obtain ⟨u, hu, rfl⟩ := inR_of (n := 63) c2
            have hij : i ≠ j := fun z => c1c (by rw [z])
            rw [exE_mk (by omega) (by omega) hij (by omega) c3] at kt kf
            refine wp_iload_n (pc := 0) dX12_isExchange_0 (by first | rfl | assumption | (repeat first | assumption | rfl | refine aG_n ?_ rfl rfl)) ?_
            refine wp_cS (pc := 1) dX12_isExchange_1 lk_12_143 rfl rfl rfl (c_X12_isHouse (fun _ => aK_i ?_) (fun q => absurd c1 q))
            refine wp_if_eq (pc := 4) (tgt := 63) dX12_isExchange_4 rfl (fun q => absurd q (by decide)) (fun _ => ?_)
            refine wp_iload_n (pc := 7) dX12_isExchange_7 (by first | rfl | assumption | (repeat first | assumption | rfl | refine aG_n ?_ rfl rfl)) ?_
            refine wp_cS (pc := 8) dX12_isExchange_8 lk_12_143 rfl rfl rfl (c_X12_isHouse (fun _ => aK_i ?_) (fun q => absurd c1b q))
            refine wp_if_eq (pc := 11) (tgt := 63) dX12_isExchange_11 rfl (fun q => absurd q (by decide)) (fun _ => ?_)
            refine wp_iload_n (pc := 14) dX12_isExchange_14 (by first | rfl | assumption | (repeat first | assumption | rfl | refine aG_n ?_ rfl rfl)) ?_
            refine wp_iload_n (pc := 15) dX12_isExchange_15 (by first | rfl | assumption | (repeat first | assumption | rfl | refine aG_n ?_ rfl rfl)) ?_
            refine wp_icmp_eq (pc := 16) (tgt := 63) dX12_isExchange_16 rfl (fun q => absurd q c1c) (fun _ => ?_)
            refine wp_iload_n (pc := 19) dX12_isExchange_19 (by first | rfl | assumption | (repeat first | assumption | rfl | refine aG_n ?_ rfl rfl)) ?_
            refine wp_cS (pc := 20) dX12_isExchange_20 lk_12_197 rfl rfl rfl (c_X12_isSet (fun _ => aK_i ?_) (fun q => absurd c2 q))
            refine wp_if_eq (pc := 23) (tgt := 63) dX12_isExchange_23 rfl (fun q => absurd q (by decide)) (fun _ => ?_)
            refine wp_iload_n (pc := 26) dX12_isExchange_26 (by first | rfl | assumption | (repeat first | assumption | rfl | refine aG_n ?_ rfl rfl)) ?_
            refine wp_aload_n (pc := 27) dX12_isExchange_27 (by first | rfl | assumption | (repeat first | assumption | rfl | refine aG_n ?_ rfl rfl)) ?_
            refine wp_iload_n (pc := 28) dX12_isExchange_28 (by first | rfl | assumption | (repeat first | assumption | rfl | refine aG_n ?_ rfl rfl)) ?_
            refine wp_cV (pc := 29) dX12_isExchange_29 lk_12_208 rfl (by decide) rfl (by first | rfl | assumption | exact sh_house (by omega) | exact sh_wish (by omega) | exact sh_wor (by omega) | exact sh_bar (by omega) | exact sh_term (by omega) | exact sh_sheet (by omega) | exact sh_items (by omega) | exact sh_sums (by omega)) rfl rfl (c_X12_thingsOf (aK_i ?_))
            refine wp_aload_n (pc := 32) dX12_isExchange_32 (by first | rfl | assumption | (repeat first | assumption | rfl | refine aG_n ?_ rfl rfl)) ?_
            refine wp_iload_n (pc := 33) dX12_isExchange_33 (by first | rfl | assumption | (repeat first | assumption | rfl | refine aG_n ?_ rfl rfl)) ?_
            refine wp_cV (pc := 34) dX12_isExchange_34 lk_12_208 rfl (by decide) rfl (by first | rfl | assumption | exact sh_house (by omega) | exact sh_wish (by omega) | exact sh_wor (by omega) | exact sh_bar (by omega) | exact sh_term (by omega) | exact sh_sheet (by omega) | exact sh_items (by omega) | exact sh_sums (by omega)) rfl rfl (c_X12_thingsOf (aK_i ?_))
            refine wp_ior (pc := 37) dX12_isExchange_37 ?_
            refine wp_iconst (pc := 38) (v := -1) dX12_isExchange_38 (by decide) ?_
            refine wp_ixor (pc := 39) dX12_isExchange_39 ?_
            refine wp_iand (pc := 40) dX12_isExchange_40 ?_
            refine wp_if_ne (pc := 41) (tgt := 63) dX12_isExchange_41 rfl (fun c41_1 => ?_) (fun c41_1 => ?_)
            · refine wp_iconst (pc := 63) (v := 0) dX12_isExchange_63 (by decide) ?_
              refine wp_ireturn (pc := 64) dX12_isExchange_64 rfl (by first | rfl | decide | assumption) ?_
              exact kf (by assumption)
            · refine wp_iload (pc := 44) dX12_isExchange_44 (by first | rfl | assumption | (repeat first | assumption | rfl | refine aG_n ?_ rfl rfl)) ?_
              refine wp_i2l (pc := 46) dX12_isExchange_46 ?_
              refine wp_ldc2 (pc := 47) dX12_isExchange_47 cl_12_218 ?_
              refine wp_ldc2 (pc := 50) dX12_isExchange_50 cl_12_216 ?_
              refine wp_cS (pc := 53) dX12_isExchange_53 lk_12_133 rfl rfl rfl (c_X12_in (fun _ => aK_i ?_) (fun q => absurd (by rw [w_int]; exact c3) q))
              refine wp_if_eq (pc := 56) (tgt := 63) dX12_isExchange_56 rfl (fun q => absurd q (by decide)) (fun _ => ?_)
              refine wp_iconst (pc := 59) (v := 1) dX12_isExchange_59 (by decide) ?_
              refine wp_goto (pc := 60) (tgt := 64) dX12_isExchange_60 rfl ?_
              refine wp_ireturn (pc := 64) dX12_isExchange_64 rfl (by first | rfl | decide | assumption) ?_
              exact kt (by assumption)
          · obtain ⟨i, hi, rfl⟩ := inR_of (n := 3) c1
            obtain ⟨j, hj, rfl⟩ := inR_of (n := 3) c1b
            refine wp_iload_n (pc := 0) dX12_isExchange_0 (by first | rfl | assumption | (repeat first | assumption | rfl | refine aG_n ?_ rfl rfl)) ?_
            refine wp_cS (pc := 1) dX12_isExchange_1 lk_12_143 rfl rfl rfl (c_X12_isHouse (fun _ => aK_i ?_) (fun q => absurd c1 q))
            refine wp_if_eq (pc := 4) (tgt := 63) dX12_isExchange_4 rfl (fun q => absurd q (by decide)) (fun _ => ?_)
            refine wp_iload_n (pc := 7) dX12_isExchange_7 (by first | rfl | assumption | (repeat first | assumption | rfl | refine aG_n ?_ rfl rfl)) ?_
            refine wp_cS (pc := 8) dX12_isExchange_8 lk_12_143 rfl rfl rfl (c_X12_isHouse (fun _ => aK_i ?_) (fun q => absurd c1b q))
            refine wp_if_eq (pc := 11) (tgt := 63) dX12_isExchange_11 rfl (fun q => absurd q (by decide)) (fun _ => ?_)
            refine wp_iload_n (pc := 14) dX12_isExchange_14 (by first | rfl | assumption | (repeat first | assumption | rfl | refine aG_n ?_ rfl rfl)) ?_
            refine wp_iload_n (pc := 15) dX12_isExchange_15 (by first | rfl | assumption | (repeat first | assumption | rfl | refine aG_n ?_ rfl rfl)) ?_
            refine wp_icmp_eq (pc := 16) (tgt := 63) dX12_isExchange_16 rfl (fun q => absurd q c1c) (fun _ => ?_)
            refine wp_iload_n (pc := 19) dX12_isExchange_19 (by first | rfl | assumption | (repeat first | assumption | rfl | refine aG_n ?_ rfl rfl)) ?_
            refine wp_cS (pc := 20) dX12_isExchange_20 lk_12_197 rfl rfl rfl (c_X12_isSet (fun _ => aK_i ?_) (fun q => absurd c2 q))
            refine wp_if_eq (pc := 23) (tgt := 63) dX12_isExchange_23 rfl (fun q => absurd q (by decide)) (fun _ => ?_)
            refine wp_iload_n (pc := 26) dX12_isExchange_26 (by first | rfl | assumption | (repeat first | assumption | rfl | refine aG_n ?_ rfl rfl)) ?_
            refine wp_aload_n (pc := 27) dX12_isExchange_27 (by first | rfl | assumption | (repeat first | assumption | rfl | refine aG_n ?_ rfl rfl)) ?_
            refine wp_iload_n (pc := 28) dX12_isExchange_28 (by first | rfl | assumption | (repeat first | assumption | rfl | refine aG_n ?_ rfl rfl)) ?_
            refine wp_cV (pc := 29) dX12_isExchange_29 lk_12_208 rfl (by decide) rfl (by first | rfl | assumption | exact sh_house (by omega) | exact sh_wish (by omega) | exact sh_wor (by omega) | exact sh_bar (by omega) | exact sh_term (by omega) | exact sh_sheet (by omega) | exact sh_items (by omega) | exact sh_sums (by omega)) rfl rfl (c_X12_thingsOf (aK_i ?_))
            refine wp_aload_n (pc := 32) dX12_isExchange_32 (by first | rfl | assumption | (repeat first | assumption | rfl | refine aG_n ?_ rfl rfl)) ?_
            refine wp_iload_n (pc := 33) dX12_isExchange_33 (by first | rfl | assumption | (repeat first | assumption | rfl | refine aG_n ?_ rfl rfl)) ?_
            refine wp_cV (pc := 34) dX12_isExchange_34 lk_12_208 rfl (by decide) rfl (by first | rfl | assumption | exact sh_house (by omega) | exact sh_wish (by omega) | exact sh_wor (by omega) | exact sh_bar (by omega) | exact sh_term (by omega) | exact sh_sheet (by omega) | exact sh_items (by omega) | exact sh_sums (by omega)) rfl rfl (c_X12_thingsOf (aK_i ?_))
            refine wp_ior (pc := 37) dX12_isExchange_37 ?_
            refine wp_iconst (pc := 38) (v := -1) dX12_isExchange_38 (by decide) ?_
            refine wp_ixor (pc := 39) dX12_isExchange_39 ?_
            refine wp_iand (pc := 40) dX12_isExchange_40 ?_
            refine wp_if_ne (pc := 41) (tgt := 63) dX12_isExchange_41 rfl (fun c41_1 => ?_) (fun c41_1 => ?_)
            · refine wp_iconst (pc := 63) (v := 0) dX12_isExchange_63 (by decide) ?_
              refine wp_ireturn (pc := 64) dX12_isExchange_64 rfl (by first | rfl | decide | assumption) ?_
              exact kf (fun ⟨i, j, u, a1, a2, a3, a4, a5, a6, a7, a8, a9⟩ => c3 a8)
            · refine wp_iload (pc := 44) dX12_isExchange_44 (by first | rfl | assumption | (repeat first | assumption | rfl | refine aG_n ?_ rfl rfl)) ?_
              refine wp_i2l (pc := 46) dX12_isExchange_46 ?_
              refine wp_ldc2 (pc := 47) dX12_isExchange_47 cl_12_218 ?_
              refine wp_ldc2 (pc := 50) dX12_isExchange_50 cl_12_216 ?_
              refine wp_cS (pc := 53) dX12_isExchange_53 lk_12_133 rfl rfl rfl (c_X12_in (fun q => absurd q (by rw [w_int]; exact c3)) (fun _ => aK_i ?_))
              refine wp_if_eq (pc := 56) (tgt := 63) dX12_isExchange_56 rfl (fun _ => ?_) (fun q => absurd q (by decide))
              refine wp_iconst (pc := 63) (v := 0) dX12_isExchange_63 (by decide) ?_
              refine wp_ireturn (pc := 64) dX12_isExchange_64 rfl (by first | rfl | decide | assumption) ?_
              exact kf (fun ⟨i, j, u, a1, a2, a3, a4, a5, a6, a7, a8, a9⟩ => c3 a8)
        · refine wp_iload_n (pc := 0) dX12_isExchange_0 (by first | rfl | assumption | (repeat first | assumption | rfl | refine aG_n ?_ rfl rfl)) ?_
          refine wp_cS (pc := 1) dX12_isExchange_1 lk_12_143 rfl rfl rfl (c_X12_isHouse (fun _ => aK_i ?_) (fun q => absurd c1 q))
          refine wp_if_eq (pc := 4) (tgt := 63) dX12_isExchange_4 rfl (fun q => absurd q (by decide)) (fun _ => ?_)
          refine wp_iload_n (pc := 7) dX12_isExchange_7 (by first | rfl | assumption | (repeat first | assumption | rfl | refine aG_n ?_ rfl rfl)) ?_
          refine wp_cS (pc := 8) dX12_isExchange_8 lk_12_143 rfl rfl rfl (c_X12_isHouse (fun _ => aK_i ?_) (fun q => absurd c1b q))
          refine wp_if_eq (pc := 11) (tgt := 63) dX12_isExchange_11 rfl (fun q => absurd q (by decide)) (fun _ => ?_)
          refine wp_iload_n (pc := 14) dX12_isExchange_14 (by first | rfl | assumption | (repeat first | assumption | rfl | refine aG_n ?_ rfl rfl)) ?_
          refine wp_iload_n (pc := 15) dX12_isExchange_15 (by first | rfl | assumption | (repeat first | assumption | rfl | refine aG_n ?_ rfl rfl)) ?_
          refine wp_icmp_eq (pc := 16) (tgt := 63) dX12_isExchange_16 rfl (fun q => absurd q c1c) (fun _ => ?_)
          refine wp_iload_n (pc := 19) dX12_isExchange_19 (by first | rfl | assumption | (repeat first | assumption | rfl | refine aG_n ?_ rfl rfl)) ?_
          refine wp_cS (pc := 20) dX12_isExchange_20 lk_12_197 rfl rfl rfl (c_X12_isSet (fun q => absurd q c2) (fun _ => aK_i ?_))
          refine wp_if_eq (pc := 23) (tgt := 63) dX12_isExchange_23 rfl (fun _ => ?_) (fun q => absurd q (by decide))
          refine wp_iconst (pc := 63) (v := 0) dX12_isExchange_63 (by decide) ?_
          refine wp_ireturn (pc := 64) dX12_isExchange_64 rfl (by first | rfl | decide | assumption) ?_
          exact kf (fun ⟨i, j, u, a1, a2, a3, a4, a5, a6, a7, a8, a9⟩ => c2 (by rw [a7]; exact inR_nI (n := 63) (by omega) (by decide)))
    · refine wp_iload_n (pc := 0) dX12_isExchange_0 (by first | rfl | assumption | (repeat first | assumption | rfl | refine aG_n ?_ rfl rfl)) ?_
      refine wp_cS (pc := 1) dX12_isExchange_1 lk_12_143 rfl rfl rfl (c_X12_isHouse (fun _ => aK_i ?_) (fun q => absurd c1 q))
      refine wp_if_eq (pc := 4) (tgt := 63) dX12_isExchange_4 rfl (fun q => absurd q (by decide)) (fun _ => ?_)
      refine wp_iload_n (pc := 7) dX12_isExchange_7 (by first | rfl | assumption | (repeat first | assumption | rfl | refine aG_n ?_ rfl rfl)) ?_
      refine wp_cS (pc := 8) dX12_isExchange_8 lk_12_143 rfl rfl rfl (c_X12_isHouse (fun q => absurd q c1b) (fun _ => aK_i ?_))
      refine wp_if_eq (pc := 11) (tgt := 63) dX12_isExchange_11 rfl (fun _ => ?_) (fun q => absurd q (by decide))
      refine wp_iconst (pc := 63) (v := 0) dX12_isExchange_63 (by decide) ?_
      refine wp_ireturn (pc := 64) dX12_isExchange_64 rfl (by first | rfl | decide | assumption) ?_
      exact kf (fun ⟨i, j, u, a1, a2, a3, a4, a5, a6, a7, a8, a9⟩ => c1b (by rw [a6]; exact inR_nI (n := 3) (by omega) (by decide)))
  · refine wp_iload_n (pc := 0) dX12_isExchange_0 (by first | rfl | assumption | (repeat first | assumption | rfl | refine aG_n ?_ rfl rfl)) ?_
    refine wp_cS (pc := 1) dX12_isExchange_1 lk_12_143 rfl rfl rfl (c_X12_isHouse (fun q => absurd q c1) (fun _ => aK_i ?_))
    refine wp_if_eq (pc := 4) (tgt := 63) dX12_isExchange_4 rfl (fun _ => ?_) (fun q => absurd q (by decide))
    refine wp_iconst (pc := 63) (v := 0) dX12_isExchange_63 (by decide) ?_
    refine wp_ireturn (pc := 64) dX12_isExchange_64 rfl (by first | rfl | decide | assumption) ?_
    exact kf (fun ⟨i, j, u, a1, a2, a3, a4, a5, a6, a7, a8, a9⟩ => c1 (by rw [a5]; exact inR_nI (n := 3) (by omega) (by decide)))
def two (a b : Nat) : Nat → Nat := fun d => if d = 0 then a else b
theorem Pr_s {P : Nat} {t w : Nat → Nat} {μ' : Mm} (h : Pr μ P t w) (h1 : μ'.1 P = μ.1 P) (h2 : μ'.2 P = μ.2 P) (h3 : ∀ d, d < 2 → μ'.1 (w d + 2) = μ.1 (w d + 2)) : Pr μ' P t w := by
  refine ⟨h.1, fun d hd => ?_⟩
  rw [h1, h2, h3 d hd]; exact h.2 d hd
/-- Pair.take of two houses -/
theorem c_X4_take {P a b : Nat} (hP : shp[P]? = some (.inl (4, [(0, 0), (0, 0), (0, 0), (0, 0), (2, 0), (2, 0)]))) (hPl : 71 ≤ P) (hPh : P ≤ 74) (hO : I_own μ.1) (hW : I_wish μ.1) (ha : a < 4) (hb : b < 4) (k : ∀ μ' : Mm, (∀ c, c ≠ P → μ'.1 c = μ.1 c) → (∀ c, c ≠ P → μ'.2 c = μ.2 c) → Pr μ' P (two (th μ.1 a) (th μ.1 b)) (two (56 + 4 * a) (56 + 4 * b)) → μ'.1 P 2 = μ.1 (55 + 4 * a) 1 → μ'.1 P 3 = μ.1 (55 + 4 * b) 1 → Q none μ') : WP X mX4_take 0 (lv_args 0 [.ref P, .ref (55 + 4 * a), .ref (55 + 4 * b)]) [] μ Q := by
  refine wp_aload_n (pc := 0) dX4_take_0 (by first | rfl | assumption | (repeat first | assumption | rfl | refine aG_n ?_ rfl rfl)) ?_
  refine wp_aload_n (pc := 1) dX4_take_1 (by first | rfl | assumption | (repeat first | assumption | rfl | refine aG_n ?_ rfl rfl)) ?_
  refine wp_getI (pc := 2) dX4_take_2 fl_4_15 (by first | rfl | assumption | exact sh_house (by omega) | exact sh_wish (by omega) | exact sh_wor (by omega) | exact sh_bar (by omega) | exact sh_term (by omega) | exact sh_sheet (by omega) | exact sh_items (by omega) | exact sh_sums (by omega)) rfl ?_
  refine wp_putI (pc := 5) dX4_take_5 fl_4_21 (by first | rfl | assumption | exact sh_house (by omega) | exact sh_wish (by omega) | exact sh_wor (by omega) | exact sh_bar (by omega) | exact sh_term (by omega) | exact sh_sheet (by omega) | exact sh_items (by omega) | exact sh_sums (by omega)) rfl rfl rfl ?_
  refine wp_aload_n (pc := 8) dX4_take_8 (by first | rfl | assumption | (repeat first | assumption | rfl | refine aG_n ?_ rfl rfl)) ?_
  refine wp_aload_n (pc := 9) dX4_take_9 (by first | rfl | assumption | (repeat first | assumption | rfl | refine aG_n ?_ rfl rfl)) ?_
  refine wp_getI (pc := 10) dX4_take_10 fl_4_15 (by first | rfl | assumption | exact sh_house (by omega) | exact sh_wish (by omega) | exact sh_wor (by omega) | exact sh_bar (by omega) | exact sh_term (by omega) | exact sh_sheet (by omega) | exact sh_items (by omega) | exact sh_sums (by omega)) rfl ?_
  refine wp_putI (pc := 13) dX4_take_13 fl_4_24 (by first | rfl | assumption | exact sh_house (by omega) | exact sh_wish (by omega) | exact sh_wor (by omega) | exact sh_bar (by omega) | exact sh_term (by omega) | exact sh_sheet (by omega) | exact sh_items (by omega) | exact sh_sums (by omega)) rfl rfl rfl ?_
  refine wp_aload_n (pc := 16) dX4_take_16 (by first | rfl | assumption | (repeat first | assumption | rfl | refine aG_n ?_ rfl rfl)) ?_
  refine wp_aload_n (pc := 17) dX4_take_17 (by first | rfl | assumption | (repeat first | assumption | rfl | refine aG_n ?_ rfl rfl)) ?_
  refine wp_getI (pc := 18) dX4_take_18 fl_4_27 (by first | rfl | assumption | exact sh_house (by omega) | exact sh_wish (by omega) | exact sh_wor (by omega) | exact sh_bar (by omega) | exact sh_term (by omega) | exact sh_sheet (by omega) | exact sh_items (by omega) | exact sh_sums (by omega)) rfl ?_
  refine wp_putI (pc := 21) dX4_take_21 fl_4_30 (by first | rfl | assumption | exact sh_house (by omega) | exact sh_wish (by omega) | exact sh_wor (by omega) | exact sh_bar (by omega) | exact sh_term (by omega) | exact sh_sheet (by omega) | exact sh_items (by omega) | exact sh_sums (by omega)) rfl rfl rfl ?_
  refine wp_aload_n (pc := 24) dX4_take_24 (by first | rfl | assumption | (repeat first | assumption | rfl | refine aG_n ?_ rfl rfl)) ?_
  refine wp_aload_n (pc := 25) dX4_take_25 (by first | rfl | assumption | (repeat first | assumption | rfl | refine aG_n ?_ rfl rfl)) ?_
  refine wp_getI (pc := 26) dX4_take_26 fl_4_27 (by first | rfl | assumption | exact sh_house (by omega) | exact sh_wish (by omega) | exact sh_wor (by omega) | exact sh_bar (by omega) | exact sh_term (by omega) | exact sh_sheet (by omega) | exact sh_items (by omega) | exact sh_sums (by omega)) rfl ?_
  refine wp_putI (pc := 29) dX4_take_29 fl_4_33 (by first | rfl | assumption | exact sh_house (by omega) | exact sh_wish (by omega) | exact sh_wor (by omega) | exact sh_bar (by omega) | exact sh_term (by omega) | exact sh_sheet (by omega) | exact sh_items (by omega) | exact sh_sums (by omega)) rfl rfl rfl ?_
  refine wp_aload_n (pc := 32) dX4_take_32 (by first | rfl | assumption | (repeat first | assumption | rfl | refine aG_n ?_ rfl rfl)) ?_
  refine wp_aload_n (pc := 33) dX4_take_33 (by first | rfl | assumption | (repeat first | assumption | rfl | refine aG_n ?_ rfl rfl)) ?_
  refine wp_getR (pc := 34) dX4_take_34 fl_4_36 (by first | rfl | assumption | exact sh_house (by omega) | exact sh_wish (by omega) | exact sh_wor (by omega) | exact sh_bar (by omega) | exact sh_term (by omega) | exact sh_sheet (by omega) | exact sh_items (by omega) | exact sh_sums (by omega)) rfl ?_
  refine wp_putD (pc := 37) dX4_take_37 fl_4_40 (by first | rfl | assumption | exact sh_house (by omega) | exact sh_wish (by omega) | exact sh_wor (by omega) | exact sh_bar (by omega) | exact sh_term (by omega) | exact sh_sheet (by omega) | exact sh_items (by omega) | exact sh_sums (by omega)) rfl rfl rfl ?_
  refine wp_aload_n (pc := 40) dX4_take_40 (by first | rfl | assumption | (repeat first | assumption | rfl | refine aG_n ?_ rfl rfl)) ?_
  refine wp_aload_n (pc := 41) dX4_take_41 (by first | rfl | assumption | (repeat first | assumption | rfl | refine aG_n ?_ rfl rfl)) ?_
  refine wp_getR (pc := 42) dX4_take_42 fl_4_36 (by first | rfl | assumption | exact sh_house (by omega) | exact sh_wish (by omega) | exact sh_wor (by omega) | exact sh_bar (by omega) | exact sh_term (by omega) | exact sh_sheet (by omega) | exact sh_items (by omega) | exact sh_sums (by omega)) rfl ?_
  refine wp_putD (pc := 45) dX4_take_45 fl_4_43 (by first | rfl | assumption | exact sh_house (by omega) | exact sh_wish (by omega) | exact sh_wor (by omega) | exact sh_bar (by omega) | exact sh_term (by omega) | exact sh_sheet (by omega) | exact sh_items (by omega) | exact sh_sums (by omega)) rfl rfl rfl ?_
  refine wp_vreturn (pc := 48) dX4_take_48 rfl ?_
  skip
  simp (disch := omega) only [up2_ne]
  refine k _ (fun c hc => ?_) (fun c hc => ?_) ⟨hP, fun d hd => ?_⟩ ?_ ?_
  · simp (disch := omega) only [up2_ne]
  · funext y; simp [upR, hc]
  · obtain rfl | rfl : d = 0 ∨ d = 1 := by omega
    · refine ⟨⟨?_, th_lt _ _⟩, ?_, Wsh_h ha, fun s hs => ?_⟩
      · simp (disch := omega) only [up2_p, up2_at, two]; exact hO.2 a ha
      · simp [upR, two]
      · have e : two (56 + 4 * a) (56 + 4 * b) 0 + 2 = 58 + 4 * a := by simp [two]; omega
        rw [e]
        simp (disch := omega) only [up2_ne]
        exact m_bit01 hW ha hs
    · refine ⟨⟨?_, th_lt _ _⟩, ?_, Wsh_h hb, fun s hs => ?_⟩
      · simp (disch := omega) only [up2_p, up2_at, two]; exact hO.2 b hb
      · simp [upR, two]
      · have e : two (56 + 4 * a) (56 + 4 * b) 1 + 2 = 58 + 4 * b := by simp [two]; omega
        rw [e]
        simp (disch := omega) only [up2_ne]
        exact m_bit01 hW hb hs
  · simp (disch := omega) only [up2_p, up2_at]
  · simp (disch := omega) only [up2_p, up2_at]
end MBASE

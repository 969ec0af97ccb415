/-! READING THE TAPE: what is read, as functions of its bytes -/
def nxF (b : Nat → Nat) (n : Nat) : Nat → Nat → Nat
  | 0, p => p
  | f + 1, p => if p < n ∧ b p = 32 then nxF b n f (p + 1) else p
def nx (b : Nat → Nat) (n p : Nat) : Nat := nxF b n (n - p) p
def ch (b : Nat → Nat) (n p : Nat) : Nat := if p < n then b p else 0
def chI (c : Nat) : Int32 := if c = 0 then -1 else nI c
def lb (c : Nat) : Nat := if 97 ≤ c ∧ c ≤ 102 then 2 ^ (c - 97) else 0
abbrev dg (c : Nat) : Prop := 48 ≤ c ∧ c ≤ 57
theorem nx_y {b : Nat → Nat} {n p : Nat} (h : p < n ∧ b p = 32) : nx b n p = nx b n (p + 1) := by
  unfold nx
  rw [show n - p = (n - (p + 1)) + 1 by omega]
  exact if_pos h
theorem nx_n {b : Nat → Nat} {n p : Nat} (h : ¬ (p < n ∧ b p = 32)) : nx b n p = p := by
  unfold nx
  cases hq : n - p with
  | zero => rfl
  | succ f => exact if_neg h
theorem nx_p (b : Nat → Nat) (n : Nat) : ∀ (g p : Nat), n - p = g → p ≤ nx b n p ∧ (p ≤ n → nx b n p ≤ n) ∧ ¬ (nx b n p < n ∧ b (nx b n p) = 32)
  | 0, p, h => by
    have c : ¬ (p < n ∧ b p = 32) := by omega
    rw [nx_n c]
    exact ⟨Nat.le_refl _, fun z => z, c⟩
  | g + 1, p, h => by
    by_cases c : p < n ∧ b p = 32
    · rw [nx_y c]
      obtain ⟨h1, h2, h3⟩ := nx_p b n g (p + 1) (by omega)
      exact ⟨by omega, fun _ => h2 (by omega), h3⟩
    · rw [nx_n c]
      exact ⟨Nat.le_refl _, fun z => z, c⟩
theorem nx_le {b : Nat → Nat} {n p : Nat} (h : p ≤ n) : nx b n p ≤ n := (nx_p b n _ p rfl).2.1 h
theorem nx_i {b : Nat → Nat} {n p : Nat} : nx b n (nx b n p) = nx b n p := nx_n (nx_p b n _ p rfl).2.2
theorem lb_lt : ∀ c, c < 127 → lb c < 64 := by decide +kernel
theorem lb_0 : lb 0 = 0 := rfl
theorem lb_up : ∀ s, s < 64 → ∀ c, c < 127 → s < lb c → s ||| lb c < 64 ∧ s ||| lb c = s + lb c := by decide +kernel
theorem lb_32 : ∀ c, c < 127 → lb c ≤ 32 := by decide +kernel
def lF (b : Nat → Nat) (n : Nat) : Nat → Nat → Nat → Nat × Nat
  | 0, p, s => (p, s)
  | f + 1, p, s => if lb (ch b n (nx b n p)) ≤ s then (nx b n p, s) else lF b n f (nx b n p + 1) (s ||| lb (ch b n (nx b n p)))
def dF (b : Nat → Nat) (n : Nat) : Nat → Nat → Nat → Nat × Nat
  | 0, p, v => (p, v)
  | f + 1, p, v => if p < n ∧ dg (b p) then dF b n f (p + 1) (min (10 * v + b p - 48) 100) else (p, v)
def cBr (b : Nat → Nat) (n p : Nat) : Bool := decide (ch b n (nx b n p) = 33)
def cL (b : Nat → Nat) (n p : Nat) : Nat × Nat := lF b n 6 (if cBr b n p = true then nx b n p + 1 else nx b n p) 0
def nL (b : Nat → Nat) (n q : Nat) : Bool := decide (ch b n (nx b n q) = 45)
def nQ (b : Nat → Nat) (n q : Nat) : Nat := nx b n (if nL b n q = true then nx b n q + 1 else nx b n q)
def nD (b : Nat → Nat) (n q : Nat) : Nat × Nat := dF b n (n - nQ b n q) (nQ b n q) 0
abbrev nOk (b : Nat → Nat) (n q : Nat) : Prop := dg (ch b n (nQ b n q)) ∧ (nD b n q).2 ≤ 99
def nV (b : Nat → Nat) (n q : Nat) : Int32 := if nL b n q = true then -(nI (nD b n q).2) else nI (nD b n q).2
abbrev clOk (b : Nat → Nat) (n p : Nat) : Prop := ¬ (cL b n p).2 = 0 ∧ (cBr b n p = true ∨ nOk b n (cL b n p).1)
def clAt (b : Nat → Nat) (n p : Nat) : Nat := if cBr b n p = true then (cL b n p).1 else (nD b n (cL b n p).1).1
def clF (b : Nat → Nat) (n p : Nat) : Nat := if (cL b n p).2 = 0 then (cL b n p).1 else nQ b n (cL b n p).1
def clV (b : Nat → Nat) (n p : Nat) : Int32 := if cBr b n p = true then 0 else nV b n (cL b n p).1
def ps (b : Nat → Nat) (n : Nat) : Nat → Nat
  | 0 => 0
  | i + 1 => nx b n (clAt b n (ps b n i)) + 1
def pa (b : Nat → Nat) (n : Nat) : Nat → Nat → Int32
  | 0, _ => 0
  | f + 1, i => if clOk b n (ps b n i) then (if ch b n (nx b n (clAt b n (ps b n i))) = 59 ∧ i ≠ 11 then pa b n f (i + 1) else if ch b n (nx b n (clAt b n (ps b n i))) = 0 then nI (i + 1) else -20 - nI (nx b n (clAt b n (ps b n i)))) else -20 - nI (clF b n (ps b n i))
/-- bytes are printable -/
abbrev pB (b : Nat → Nat) (n : Nat) : Prop := ∀ j, j < n → 32 ≤ b j ∧ b j ≤ 126
theorem ch_lt {b : Nat → Nat} {n p : Nat} (h : pB b n) : ch b n p < 127 := by
  unfold ch
  split
  · have := (h p (by assumption)).2; omega
  · omega
theorem ch_n {b : Nat → Nat} {n p : Nat} (h : ch b n p ≠ 0) : p < n := by
  unfold ch at h
  by_cases c : p < n
  · exact c
  · rw [if_neg c] at h; exact absurd rfl h
theorem chI_eq : ∀ c, c < 127 → ∀ x, x < 127 → 0 < x → (chI c = nI x ↔ c = x) := by decide +kernel
theorem chI_33 {c : Nat} (h : c < 127) : chI c = 33 ↔ c = 33 := chI_eq c h 33 (by decide) (by decide)
theorem chI_45 {c : Nat} (h : c < 127) : chI c = 45 ↔ c = 45 := chI_eq c h 45 (by decide) (by decide)
theorem chI_59 {c : Nat} (h : c < 127) : chI c = 59 ↔ c = 59 := chI_eq c h 59 (by decide) (by decide)
theorem chI_m1 : ∀ c, c < 127 → (chI c = -1 ↔ c = 0) := by decide +kernel
theorem chI_neg : ∀ c, c < 127 → (chI c < 0 ↔ c = 0) := by decide +kernel
theorem chI_ge : ∀ c, c < 127 → (0 ≤ chI c ↔ ¬ c = 0) := by decide +kernel
theorem lF_p {b : Nat → Nat} {n : Nat} (h : pB b n) : ∀ (f p s : Nat), p ≤ n → s < 64 → (lF b n f p s).1 ≤ n ∧ (lF b n f p s).2 < 64 ∧ s ≤ (lF b n f p s).2
  | 0, p, s, hp, hs => ⟨hp, hs, Nat.le_refl _⟩
  | f + 1, p, s, hp, hs => by
    unfold lF
    have hc := ch_lt (p := nx b n p) h
    by_cases c : lb (ch b n (nx b n p)) ≤ s
    · rw [if_pos c]; exact ⟨nx_le hp, hs, Nat.le_refl _⟩
    · rw [if_neg c]
      have hq : nx b n p < n := ch_n (fun z => c (by rw [z, lb_0]; exact Nat.zero_le _))
      obtain ⟨u1, u2⟩ := lb_up s hs _ hc (by omega)
      obtain ⟨a1, a2, a3⟩ := lF_p h f (nx b n p + 1) (s ||| lb (ch b n (nx b n p))) (by omega) u1
      exact ⟨a1, a2, by omega⟩
/-- no letter at all: the place is where the first one was looked for -/
theorem lF_0 {b : Nat → Nat} {n p : Nat} (h : pB b n) (hp : p ≤ n) (f : Nat) (hz : (lF b n (f + 1) p 0).2 = 0) : (lF b n (f + 1) p 0).1 = nx b n p := by
  unfold lF at hz ⊢
  have hc := ch_lt (p := nx b n p) h
  by_cases c : lb (ch b n (nx b n p)) ≤ 0
  · rw [if_pos c]
  · rw [if_neg c] at hz
    have hq : nx b n p < n := ch_n (fun z => c (by rw [z, lb_0]; exact Nat.le_refl _))
    obtain ⟨u1, u2⟩ := lb_up 0 (by decide) _ hc (by omega)
    have := (lF_p h f (nx b n p + 1) (0 ||| lb (ch b n (nx b n p))) (by omega) u1).2.2
    omega
theorem dF_p {b : Nat → Nat} {n : Nat} : ∀ (f p v : Nat), p ≤ n → v ≤ 100 → p ≤ (dF b n f p v).1 ∧ (dF b n f p v).1 ≤ n ∧ (dF b n f p v).2 ≤ 100
  | 0, p, v, hp, hv => ⟨Nat.le_refl _, hp, hv⟩
  | f + 1, p, v, hp, hv => by
    unfold dF
    by_cases c : p < n ∧ dg (b p)
    · rw [if_pos c]
      obtain ⟨a1, a2, a3⟩ := dF_p (b := b) (n := n) f (p + 1) (min (10 * v + b p - 48) 100) (by omega) (by omega)
      exact ⟨by omega, a2, a3⟩
    · rw [if_neg c]; exact ⟨Nat.le_refl _, hp, hv⟩
theorem cB_n {b : Nat → Nat} {n p : Nat} (h : cBr b n p = true) : nx b n p < n := ch_n (by rw [of_decide_eq_true h]; decide)
theorem nL_n {b : Nat → Nat} {n p : Nat} (h : nL b n p = true) : nx b n p < n := ch_n (by rw [of_decide_eq_true h]; decide)
theorem cL_s {b : Nat → Nat} {n p : Nat} (hp : p ≤ n) : (if cBr b n p = true then nx b n p + 1 else nx b n p) ≤ n := by
  split
  · have := cB_n (by assumption); omega
  · exact nx_le hp
theorem nL_s {b : Nat → Nat} {n p : Nat} (hp : p ≤ n) : (if nL b n p = true then nx b n p + 1 else nx b n p) ≤ n := by
  split
  · have := nL_n (by assumption); omega
  · exact nx_le hp
theorem cL_le {b : Nat → Nat} {n p : Nat} (h : pB b n) (hp : p ≤ n) : (cL b n p).1 ≤ n := (lF_p h 6 _ 0 (cL_s hp) (by decide)).1
theorem cL_lt {b : Nat → Nat} {n p : Nat} (h : pB b n) (hp : p ≤ n) : (cL b n p).2 < 64 := (lF_p h 6 _ 0 (cL_s hp) (by decide)).2.1
theorem nQ_le {b : Nat → Nat} {n p : Nat} (hp : p ≤ n) : nQ b n p ≤ n := nx_le (nL_s hp)
theorem nD_le {b : Nat → Nat} {n p : Nat} (hp : p ≤ n) : (nD b n p).1 ≤ n := (dF_p _ _ 0 (nQ_le hp) (by decide)).2.1
theorem clAt_le {b : Nat → Nat} {n p : Nat} (h : pB b n) (hp : p ≤ n) : clAt b n p ≤ n := by
  unfold clAt
  split
  · exact cL_le h hp
  · exact nD_le (cL_le h hp)
/-- only one place of one cell has changed -/
def PL (a f : Nat) (μ μ' : Mm) (p : Nat) : Prop := (∀ c j, ¬ (c = a ∧ j = f) → μ'.1 c j = μ.1 c j) ∧ μ'.2 = μ.2 ∧ μ'.1 a f = nI p
theorem PL.of {a f p : Nat} {μ : Mm} (h : μ.1 a f = nI p) : PL a f μ μ p := ⟨fun _ _ _ => rfl, rfl, h⟩
theorem PL.up {a f p q : Nat} {μ μ' : Mm} {v : Int32} (h : PL a f μ μ' p) (hv : v = nI q) : PL a f μ (up2 μ'.1 a f v, μ'.2) q := ⟨fun c j hc => (up2_p hc).trans (h.1 c j hc), h.2.1, up2_at.trans hv⟩
theorem PL.trans {a f p q : Nat} {μ μ' μ'' : Mm} (h : PL a f μ μ' p) (h' : PL a f μ' μ'' q) : PL a f μ μ'' q := ⟨fun c j hc => (h'.1 c j hc).trans (h.1 c j hc), h'.2.1.trans h.2.1, h'.2.2⟩
/-- the tape of one side -/
def TG (M : MM) (c f r : Nat) (b : Nat → Nat) (n : Nat) : Prop := n ≤ 90 ∧ pB b n ∧ M c f = nI n ∧ ∀ j, j < n → M r j = nI (b j)
theorem TG.c {M M' : MM} {c f r n : Nat} {b : Nat → Nat} (h : TG M c f r b n) (h1 : M' c f = M c f) (h2 : ∀ j, M' r j = M r j) : TG M' c f r b n := ⟨h.1, h.2.1, h1.trans h.2.2.1, fun j hj => (h2 j).trans (h.2.2.2 j hj)⟩
theorem TC {μ μ' : Mm} {n p : Nat} {b : Nat → Nat} (h : TG μ.1 2 1 3 b n) (hp : PL 2 2 μ μ' p) : TG μ'.1 2 1 3 b n := h.c (hp.1 2 1 (by omega)) (fun j => hp.1 3 j (by omega))
theorem TM {μ μ' : Mm} {n p : Nat} {b : Nat → Nat} (h : TG μ.1 86 10 96 b n) (hp : PL 86 11 μ μ' p) : TG μ'.1 86 10 96 b n := h.c (hp.1 86 10 (by omega)) (fun j => hp.1 96 j (by omega))
section NEXT
variable {X : aX} {μ : Mm} {Q : Option Value → Mm → Prop} {n r : Nat} {b : Nat → Nat}
theorem l_X8_next (hT : TG μ.1 2 1 3 b n) (k : ∀ μ', PL 2 2 μ μ' r → Q (some (.int (chI (ch b n r)))) μ') : ∀ (g p : Nat), n - p = g → p ≤ n → nx b n p = r → ∀ μ', PL 2 2 μ μ' p → ∀ L : aL, aL_get L 0 = some (.ref 2) → WP X mX8_next 0 L [] μ' Q
  | 0, p, hg, hp, hr, μ', hP, L, g0 => by
    obtain rfl : p = n := by omega
    rw [nx_n (by omega)] at hr
    subst hr
    have hT' := TC hT hP
    have hsz := hT'.2.2.1
    have hn := hT.1
    refine wp_aload_n (pc := 0) dX8_next_0 (by first | rfl | assumption | (repeat first | assumption | rfl | refine aG_n ?_ rfl rfl)) ?_
    refine wp_getI (pc := 1) dX8_next_1 fl_8_32 (by first | rfl | assumption | exact sh_house (by omega) | exact sh_wish (by omega) | exact sh_wor (by omega) | exact sh_bar (by omega) | exact sh_term (by omega) | exact sh_sheet (by omega) | exact sh_items (by omega) | exact sh_sums (by omega)) rfl ?_
    refine wp_aload_n (pc := 4) dX8_next_4 (by first | rfl | assumption | (repeat first | assumption | rfl | refine aG_n ?_ rfl rfl)) ?_
    refine wp_getI (pc := 5) dX8_next_5 fl_8_23 (by first | rfl | assumption | exact sh_house (by omega) | exact sh_wish (by omega) | exact sh_wor (by omega) | exact sh_bar (by omega) | exact sh_term (by omega) | exact sh_sheet (by omega) | exact sh_items (by omega) | exact sh_sums (by omega)) rfl ?_
    refine wp_icmp_ge (pc := 8) (tgt := 38) dX8_next_8 rfl (fun _ => ?_) (fun q => absurd (by rw [hsz, hP.2.2]; exact nI_le (by omega) (by omega)) q)
    refine wp_aload_n (pc := 38) dX8_next_38 (by first | rfl | assumption | (repeat first | assumption | rfl | refine aG_n ?_ rfl rfl)) ?_
    refine wp_getI (pc := 39) dX8_next_39 fl_8_32 (by first | rfl | assumption | exact sh_house (by omega) | exact sh_wish (by omega) | exact sh_wor (by omega) | exact sh_bar (by omega) | exact sh_term (by omega) | exact sh_sheet (by omega) | exact sh_items (by omega) | exact sh_sums (by omega)) rfl ?_
    refine wp_aload_n (pc := 42) dX8_next_42 (by first | rfl | assumption | (repeat first | assumption | rfl | refine aG_n ?_ rfl rfl)) ?_
    refine wp_getI (pc := 43) dX8_next_43 fl_8_23 (by first | rfl | assumption | exact sh_house (by omega) | exact sh_wish (by omega) | exact sh_wor (by omega) | exact sh_bar (by omega) | exact sh_term (by omega) | exact sh_sheet (by omega) | exact sh_items (by omega) | exact sh_sums (by omega)) rfl ?_
    refine wp_icmp_ge (pc := 46) (tgt := 61) dX8_next_46 rfl (fun _ => ?_) (fun q => absurd (by rw [hsz, hP.2.2]; exact nI_le (by omega) (by omega)) q)
    refine wp_iconst (pc := 61) (v := -1) dX8_next_61 (by decide) ?_
    refine wp_ireturn (pc := 62) dX8_next_62 rfl (by first | rfl | decide | assumption) ?_
    refine qEq ?_ (k _ hP)
    unfold ch
    rw [if_neg (by omega)]; rfl
  | g + 1, p, hg, hp, hr, μ', hP, L, g0 => by
    have hT' := TC hT hP
    have hsz := hT'.2.2.1
    have hn := hT.1
    have hpn : p < n := by omega
    have cp : (nI p).toNatClampNeg = p := nI_clamp (by omega)
    have hbp := hT'.2.2.2 p hpn
    have h126 := hT.2.1 p hpn
    by_cases c : b p = 32
    · rw [nx_y ⟨hpn, c⟩] at hr
      refine wp_aload_n (pc := 0) dX8_next_0 (by first | rfl | assumption | (repeat first | assumption | rfl | refine aG_n ?_ rfl rfl)) ?_
      refine wp_getI (pc := 1) dX8_next_1 fl_8_32 (by first | rfl | assumption | exact sh_house (by omega) | exact sh_wish (by omega) | exact sh_wor (by omega) | exact sh_bar (by omega) | exact sh_term (by omega) | exact sh_sheet (by omega) | exact sh_items (by omega) | exact sh_sums (by omega)) rfl ?_
      refine wp_aload_n (pc := 4) dX8_next_4 (by first | rfl | assumption | (repeat first | assumption | rfl | refine aG_n ?_ rfl rfl)) ?_
      refine wp_getI (pc := 5) dX8_next_5 fl_8_23 (by first | rfl | assumption | exact sh_house (by omega) | exact sh_wish (by omega) | exact sh_wor (by omega) | exact sh_bar (by omega) | exact sh_term (by omega) | exact sh_sheet (by omega) | exact sh_items (by omega) | exact sh_sums (by omega)) rfl ?_
      refine wp_icmp_ge (pc := 8) (tgt := 38) dX8_next_8 rfl (fun q => absurd q (by rw [hsz, hP.2.2]; exact nI_ge (by omega) (by omega))) (fun _ => ?_)
      refine wp_aload_n (pc := 11) dX8_next_11 (by first | rfl | assumption | (repeat first | assumption | rfl | refine aG_n ?_ rfl rfl)) ?_
      refine wp_getR (pc := 12) dX8_next_12 fl_8_11 (by first | rfl | assumption | exact sh_house (by omega) | exact sh_wish (by omega) | exact sh_wor (by omega) | exact sh_bar (by omega) | exact sh_term (by omega) | exact sh_sheet (by omega) | exact sh_items (by omega) | exact sh_sums (by omega)) rfl ?_
      refine wp_aload_n (pc := 15) dX8_next_15 (by first | rfl | assumption | (repeat first | assumption | rfl | refine aG_n ?_ rfl rfl)) ?_
      refine wp_getI (pc := 16) dX8_next_16 fl_8_32 (by first | rfl | assumption | exact sh_house (by omega) | exact sh_wish (by omega) | exact sh_wor (by omega) | exact sh_bar (by omega) | exact sh_term (by omega) | exact sh_sheet (by omega) | exact sh_items (by omega) | exact sh_sums (by omega)) rfl ?_
      refine wp_iald (pc := 19) dX8_next_19 (by first | rfl | assumption | exact sh_house (by omega) | exact sh_wish (by omega) | exact sh_wor (by omega) | exact sh_bar (by omega) | exact sh_term (by omega) | exact sh_sheet (by omega) | exact sh_items (by omega) | exact sh_sums (by omega)) (by rw [hP.2.2]; exact vp_in_nI (by omega) (by decide)) ?_
      refine wp_bipush (pc := 20) (v := 32) dX8_next_20 (by decide) ?_
      refine wp_icmp_ne (pc := 22) (tgt := 38) dX8_next_22 rfl (fun q => absurd (by rw [hP.2.2, cp, hbp, c]; rfl) q) (fun _ => ?_)
      refine wp_aload_n (pc := 25) dX8_next_25 (by first | rfl | assumption | (repeat first | assumption | rfl | refine aG_n ?_ rfl rfl)) ?_
      refine wp_dupr (pc := 26) dX8_next_26 ?_
      refine wp_getI (pc := 27) dX8_next_27 fl_8_32 (by first | rfl | assumption | exact sh_house (by omega) | exact sh_wish (by omega) | exact sh_wor (by omega) | exact sh_bar (by omega) | exact sh_term (by omega) | exact sh_sheet (by omega) | exact sh_items (by omega) | exact sh_sums (by omega)) rfl ?_
      refine wp_iconst (pc := 30) (v := 1) dX8_next_30 (by decide) ?_
      refine wp_iadd (pc := 31) dX8_next_31 ?_
      refine wp_putI (pc := 32) dX8_next_32 fl_8_32 (by first | rfl | assumption | exact sh_house (by omega) | exact sh_wish (by omega) | exact sh_wor (by omega) | exact sh_bar (by omega) | exact sh_term (by omega) | exact sh_sheet (by omega) | exact sh_items (by omega) | exact sh_sums (by omega)) rfl rfl rfl ?_
      refine wp_goto (pc := 35) (tgt := 0) dX8_next_35 rfl ?_
      exact l_X8_next hT k g (p + 1) (by omega) (by omega) hr _ (hP.up (by rw [hP.2.2, nI_1])) _ g0
    · rw [nx_n (fun z => c z.2)] at hr
      subst hr
      refine wp_aload_n (pc := 0) dX8_next_0 (by first | rfl | assumption | (repeat first | assumption | rfl | refine aG_n ?_ rfl rfl)) ?_
      refine wp_getI (pc := 1) dX8_next_1 fl_8_32 (by first | rfl | assumption | exact sh_house (by omega) | exact sh_wish (by omega) | exact sh_wor (by omega) | exact sh_bar (by omega) | exact sh_term (by omega) | exact sh_sheet (by omega) | exact sh_items (by omega) | exact sh_sums (by omega)) rfl ?_
      refine wp_aload_n (pc := 4) dX8_next_4 (by first | rfl | assumption | (repeat first | assumption | rfl | refine aG_n ?_ rfl rfl)) ?_
      refine wp_getI (pc := 5) dX8_next_5 fl_8_23 (by first | rfl | assumption | exact sh_house (by omega) | exact sh_wish (by omega) | exact sh_wor (by omega) | exact sh_bar (by omega) | exact sh_term (by omega) | exact sh_sheet (by omega) | exact sh_items (by omega) | exact sh_sums (by omega)) rfl ?_
      refine wp_icmp_ge (pc := 8) (tgt := 38) dX8_next_8 rfl (fun q => absurd q (by rw [hsz, hP.2.2]; exact nI_ge (by omega) (by omega))) (fun _ => ?_)
      refine wp_aload_n (pc := 11) dX8_next_11 (by first | rfl | assumption | (repeat first | assumption | rfl | refine aG_n ?_ rfl rfl)) ?_
      refine wp_getR (pc := 12) dX8_next_12 fl_8_11 (by first | rfl | assumption | exact sh_house (by omega) | exact sh_wish (by omega) | exact sh_wor (by omega) | exact sh_bar (by omega) | exact sh_term (by omega) | exact sh_sheet (by omega) | exact sh_items (by omega) | exact sh_sums (by omega)) rfl ?_
      refine wp_aload_n (pc := 15) dX8_next_15 (by first | rfl | assumption | (repeat first | assumption | rfl | refine aG_n ?_ rfl rfl)) ?_
      refine wp_getI (pc := 16) dX8_next_16 fl_8_32 (by first | rfl | assumption | exact sh_house (by omega) | exact sh_wish (by omega) | exact sh_wor (by omega) | exact sh_bar (by omega) | exact sh_term (by omega) | exact sh_sheet (by omega) | exact sh_items (by omega) | exact sh_sums (by omega)) rfl ?_
      refine wp_iald (pc := 19) dX8_next_19 (by first | rfl | assumption | exact sh_house (by omega) | exact sh_wish (by omega) | exact sh_wor (by omega) | exact sh_bar (by omega) | exact sh_term (by omega) | exact sh_sheet (by omega) | exact sh_items (by omega) | exact sh_sums (by omega)) (by rw [hP.2.2]; exact vp_in_nI (by omega) (by decide)) ?_
      refine wp_bipush (pc := 20) (v := 32) dX8_next_20 (by decide) ?_
      refine wp_icmp_ne (pc := 22) (tgt := 38) dX8_next_22 rfl (fun _ => ?_) (fun q => absurd q (by rw [hP.2.2, cp, hbp, show (32 : Int32) = nI 32 from rfl, nI_eq (by omega) (by omega)]; exact c))
      refine wp_aload_n (pc := 38) dX8_next_38 (by first | rfl | assumption | (repeat first | assumption | rfl | refine aG_n ?_ rfl rfl)) ?_
      refine wp_getI (pc := 39) dX8_next_39 fl_8_32 (by first | rfl | assumption | exact sh_house (by omega) | exact sh_wish (by omega) | exact sh_wor (by omega) | exact sh_bar (by omega) | exact sh_term (by omega) | exact sh_sheet (by omega) | exact sh_items (by omega) | exact sh_sums (by omega)) rfl ?_
      refine wp_aload_n (pc := 42) dX8_next_42 (by first | rfl | assumption | (repeat first | assumption | rfl | refine aG_n ?_ rfl rfl)) ?_
      refine wp_getI (pc := 43) dX8_next_43 fl_8_23 (by first | rfl | assumption | exact sh_house (by omega) | exact sh_wish (by omega) | exact sh_wor (by omega) | exact sh_bar (by omega) | exact sh_term (by omega) | exact sh_sheet (by omega) | exact sh_items (by omega) | exact sh_sums (by omega)) rfl ?_
      refine wp_icmp_ge (pc := 46) (tgt := 61) dX8_next_46 rfl (fun q => absurd q (by rw [hsz, hP.2.2]; exact nI_ge (by omega) (by omega))) (fun _ => ?_)
      refine wp_aload_n (pc := 49) dX8_next_49 (by first | rfl | assumption | (repeat first | assumption | rfl | refine aG_n ?_ rfl rfl)) ?_
      refine wp_getR (pc := 50) dX8_next_50 fl_8_11 (by first | rfl | assumption | exact sh_house (by omega) | exact sh_wish (by omega) | exact sh_wor (by omega) | exact sh_bar (by omega) | exact sh_term (by omega) | exact sh_sheet (by omega) | exact sh_items (by omega) | exact sh_sums (by omega)) rfl ?_
      refine wp_aload_n (pc := 53) dX8_next_53 (by first | rfl | assumption | (repeat first | assumption | rfl | refine aG_n ?_ rfl rfl)) ?_
      refine wp_getI (pc := 54) dX8_next_54 fl_8_32 (by first | rfl | assumption | exact sh_house (by omega) | exact sh_wish (by omega) | exact sh_wor (by omega) | exact sh_bar (by omega) | exact sh_term (by omega) | exact sh_sheet (by omega) | exact sh_items (by omega) | exact sh_sums (by omega)) rfl ?_
      refine wp_iald (pc := 57) dX8_next_57 (by first | rfl | assumption | exact sh_house (by omega) | exact sh_wish (by omega) | exact sh_wor (by omega) | exact sh_bar (by omega) | exact sh_term (by omega) | exact sh_sheet (by omega) | exact sh_items (by omega) | exact sh_sums (by omega)) (by rw [hP.2.2]; exact vp_in_nI (by omega) (by decide)) ?_
      refine wp_goto (pc := 58) (tgt := 62) dX8_next_58 rfl ?_
      refine wp_ireturn (pc := 62) dX8_next_62 rfl (by first | rfl | decide | assumption) ?_
      refine qEq ?_ (k _ hP)
      rw [hP.2.2, cp, hbp]
      unfold ch chI
      rw [if_pos hpn, if_neg (by omega)]
theorem c_X8_next {p : Nat} (hT : TG μ.1 2 1 3 b n) (hp : p ≤ n) (hP : μ.1 2 2 = nI p) (k : ∀ μ', PL 2 2 μ μ' (nx b n p) → Q (some (.int (chI (ch b n (nx b n p))))) μ') : WP X mX8_next 0 (lv_args 0 [.ref 2]) [] μ Q := l_X8_next hT k _ p rfl hp rfl _ (PL.of hP) _ rfl
theorem l_X12_next (hT : TG μ.1 86 10 96 b n) (k : ∀ μ', PL 86 11 μ μ' r → Q (some (.int (chI (ch b n r)))) μ') : ∀ (g p : Nat), n - p = g → p ≤ n → nx b n p = r → ∀ μ', PL 86 11 μ μ' p → ∀ L : aL, aL_get L 0 = some (.ref 86) → WP X mX12_next 0 L [] μ' Q
  | 0, p, hg, hp, hr, μ', hP, L, g0 => by
    obtain rfl : p = n := by omega
    rw [nx_n (by omega)] at hr
    subst hr
    have hT' := TM hT hP
    have hsz := hT'.2.2.1
    have hn := hT.1
    refine wp_aload_n (pc := 0) dX12_next_0 (by first | rfl | assumption | (repeat first | assumption | rfl | refine aG_n ?_ rfl rfl)) ?_
    refine wp_getI (pc := 1) dX12_next_1 fl_12_164 (by first | rfl | assumption | exact sh_house (by omega) | exact sh_wish (by omega) | exact sh_wor (by omega) | exact sh_bar (by omega) | exact sh_term (by omega) | exact sh_sheet (by omega) | exact sh_items (by omega) | exact sh_sums (by omega)) rfl ?_
    refine wp_aload_n (pc := 4) dX12_next_4 (by first | rfl | assumption | (repeat first | assumption | rfl | refine aG_n ?_ rfl rfl)) ?_
    refine wp_getI (pc := 5) dX12_next_5 fl_12_161 (by first | rfl | assumption | exact sh_house (by omega) | exact sh_wish (by omega) | exact sh_wor (by omega) | exact sh_bar (by omega) | exact sh_term (by omega) | exact sh_sheet (by omega) | exact sh_items (by omega) | exact sh_sums (by omega)) rfl ?_
    refine wp_icmp_ge (pc := 8) (tgt := 38) dX12_next_8 rfl (fun _ => ?_) (fun q => absurd (by rw [hsz, hP.2.2]; exact nI_le (by omega) (by omega)) q)
    refine wp_aload_n (pc := 38) dX12_next_38 (by first | rfl | assumption | (repeat first | assumption | rfl | refine aG_n ?_ rfl rfl)) ?_
    refine wp_getI (pc := 39) dX12_next_39 fl_12_164 (by first | rfl | assumption | exact sh_house (by omega) | exact sh_wish (by omega) | exact sh_wor (by omega) | exact sh_bar (by omega) | exact sh_term (by omega) | exact sh_sheet (by omega) | exact sh_items (by omega) | exact sh_sums (by omega)) rfl ?_
    refine wp_aload_n (pc := 42) dX12_next_42 (by first | rfl | assumption | (repeat first | assumption | rfl | refine aG_n ?_ rfl rfl)) ?_
    refine wp_getI (pc := 43) dX12_next_43 fl_12_161 (by first | rfl | assumption | exact sh_house (by omega) | exact sh_wish (by omega) | exact sh_wor (by omega) | exact sh_bar (by omega) | exact sh_term (by omega) | exact sh_sheet (by omega) | exact sh_items (by omega) | exact sh_sums (by omega)) rfl ?_
    refine wp_icmp_ge (pc := 46) (tgt := 61) dX12_next_46 rfl (fun _ => ?_) (fun q => absurd (by rw [hsz, hP.2.2]; exact nI_le (by omega) (by omega)) q)
    refine wp_iconst (pc := 61) (v := -1) dX12_next_61 (by decide) ?_
    refine wp_ireturn (pc := 62) dX12_next_62 rfl (by first | rfl | decide | assumption) ?_
    refine qEq ?_ (k _ hP)
    unfold ch
    rw [if_neg (by omega)]; rfl
  | g + 1, p, hg, hp, hr, μ', hP, L, g0 => by
    have hT' := TM hT hP
    have hsz := hT'.2.2.1
    have hn := hT.1
    have hpn : p < n := by omega
    have cp : (nI p).toNatClampNeg = p := nI_clamp (by omega)
    have hbp := hT'.2.2.2 p hpn
    have h126 := hT.2.1 p hpn
    by_cases c : b p = 32
    · rw [nx_y ⟨hpn, c⟩] at hr
      refine wp_aload_n (pc := 0) dX12_next_0 (by first | rfl | assumption | (repeat first | assumption | rfl | refine aG_n ?_ rfl rfl)) ?_
      refine wp_getI (pc := 1) dX12_next_1 fl_12_164 (by first | rfl | assumption | exact sh_house (by omega) | exact sh_wish (by omega) | exact sh_wor (by omega) | exact sh_bar (by omega) | exact sh_term (by omega) | exact sh_sheet (by omega) | exact sh_items (by omega) | exact sh_sums (by omega)) rfl ?_
      refine wp_aload_n (pc := 4) dX12_next_4 (by first | rfl | assumption | (repeat first | assumption | rfl | refine aG_n ?_ rfl rfl)) ?_
      refine wp_getI (pc := 5) dX12_next_5 fl_12_161 (by first | rfl | assumption | exact sh_house (by omega) | exact sh_wish (by omega) | exact sh_wor (by omega) | exact sh_bar (by omega) | exact sh_term (by omega) | exact sh_sheet (by omega) | exact sh_items (by omega) | exact sh_sums (by omega)) rfl ?_
      refine wp_icmp_ge (pc := 8) (tgt := 38) dX12_next_8 rfl (fun q => absurd q (by rw [hsz, hP.2.2]; exact nI_ge (by omega) (by omega))) (fun _ => ?_)
      refine wp_aload_n (pc := 11) dX12_next_11 (by first | rfl | assumption | (repeat first | assumption | rfl | refine aG_n ?_ rfl rfl)) ?_
      refine wp_getR (pc := 12) dX12_next_12 fl_12_38 (by first | rfl | assumption | exact sh_house (by omega) | exact sh_wish (by omega) | exact sh_wor (by omega) | exact sh_bar (by omega) | exact sh_term (by omega) | exact sh_sheet (by omega) | exact sh_items (by omega) | exact sh_sums (by omega)) rfl ?_
      refine wp_aload_n (pc := 15) dX12_next_15 (by first | rfl | assumption | (repeat first | assumption | rfl | refine aG_n ?_ rfl rfl)) ?_
      refine wp_getI (pc := 16) dX12_next_16 fl_12_164 (by first | rfl | assumption | exact sh_house (by omega) | exact sh_wish (by omega) | exact sh_wor (by omega) | exact sh_bar (by omega) | exact sh_term (by omega) | exact sh_sheet (by omega) | exact sh_items (by omega) | exact sh_sums (by omega)) rfl ?_
      refine wp_iald (pc := 19) dX12_next_19 (by first | rfl | assumption | exact sh_house (by omega) | exact sh_wish (by omega) | exact sh_wor (by omega) | exact sh_bar (by omega) | exact sh_term (by omega) | exact sh_sheet (by omega) | exact sh_items (by omega) | exact sh_sums (by omega)) (by rw [hP.2.2]; exact vp_in_nI (by omega) (by decide)) ?_
      refine wp_bipush (pc := 20) (v := 32) dX12_next_20 (by decide) ?_
      refine wp_icmp_ne (pc := 22) (tgt := 38) dX12_next_22 rfl (fun q => absurd (by rw [hP.2.2, cp, hbp, c]; rfl) q) (fun _ => ?_)
      refine wp_aload_n (pc := 25) dX12_next_25 (by first | rfl | assumption | (repeat first | assumption | rfl | refine aG_n ?_ rfl rfl)) ?_
      refine wp_dupr (pc := 26) dX12_next_26 ?_
      refine wp_getI (pc := 27) dX12_next_27 fl_12_164 (by first | rfl | assumption | exact sh_house (by omega) | exact sh_wish (by omega) | exact sh_wor (by omega) | exact sh_bar (by omega) | exact sh_term (by omega) | exact sh_sheet (by omega) | exact sh_items (by omega) | exact sh_sums (by omega)) rfl ?_
      refine wp_iconst (pc := 30) (v := 1) dX12_next_30 (by decide) ?_
      refine wp_iadd (pc := 31) dX12_next_31 ?_
      refine wp_putI (pc := 32) dX12_next_32 fl_12_164 (by first | rfl | assumption | exact sh_house (by omega) | exact sh_wish (by omega) | exact sh_wor (by omega) | exact sh_bar (by omega) | exact sh_term (by omega) | exact sh_sheet (by omega) | exact sh_items (by omega) | exact sh_sums (by omega)) rfl rfl rfl ?_
      refine wp_goto (pc := 35) (tgt := 0) dX12_next_35 rfl ?_
      exact l_X12_next hT k g (p + 1) (by omega) (by omega) hr _ (hP.up (by rw [hP.2.2, nI_1])) _ g0
    · rw [nx_n (fun z => c z.2)] at hr
      subst hr
      refine wp_aload_n (pc := 0) dX12_next_0 (by first | rfl | assumption | (repeat first | assumption | rfl | refine aG_n ?_ rfl rfl)) ?_
      refine wp_getI (pc := 1) dX12_next_1 fl_12_164 (by first | rfl | assumption | exact sh_house (by omega) | exact sh_wish (by omega) | exact sh_wor (by omega) | exact sh_bar (by omega) | exact sh_term (by omega) | exact sh_sheet (by omega) | exact sh_items (by omega) | exact sh_sums (by omega)) rfl ?_
      refine wp_aload_n (pc := 4) dX12_next_4 (by first | rfl | assumption | (repeat first | assumption | rfl | refine aG_n ?_ rfl rfl)) ?_
      refine wp_getI (pc := 5) dX12_next_5 fl_12_161 (by first | rfl | assumption | exact sh_house (by omega) | exact sh_wish (by omega) | exact sh_wor (by omega) | exact sh_bar (by omega) | exact sh_term (by omega) | exact sh_sheet (by omega) | exact sh_items (by omega) | exact sh_sums (by omega)) rfl ?_
      refine wp_icmp_ge (pc := 8) (tgt := 38) dX12_next_8 rfl (fun q => absurd q (by rw [hsz, hP.2.2]; exact nI_ge (by omega) (by omega))) (fun _ => ?_)
      refine wp_aload_n (pc := 11) dX12_next_11 (by first | rfl | assumption | (repeat first | assumption | rfl | refine aG_n ?_ rfl rfl)) ?_
      refine wp_getR (pc := 12) dX12_next_12 fl_12_38 (by first | rfl | assumption | exact sh_house (by omega) | exact sh_wish (by omega) | exact sh_wor (by omega) | exact sh_bar (by omega) | exact sh_term (by omega) | exact sh_sheet (by omega) | exact sh_items (by omega) | exact sh_sums (by omega)) rfl ?_
      refine wp_aload_n (pc := 15) dX12_next_15 (by first | rfl | assumption | (repeat first | assumption | rfl | refine aG_n ?_ rfl rfl)) ?_
      refine wp_getI (pc := 16) dX12_next_16 fl_12_164 (by first | rfl | assumption | exact sh_house (by omega) | exact sh_wish (by omega) | exact sh_wor (by omega) | exact sh_bar (by omega) | exact sh_term (by omega) | exact sh_sheet (by omega) | exact sh_items (by omega) | exact sh_sums (by omega)) rfl ?_
      refine wp_iald (pc := 19) dX12_next_19 (by first | rfl | assumption | exact sh_house (by omega) | exact sh_wish (by omega) | exact sh_wor (by omega) | exact sh_bar (by omega) | exact sh_term (by omega) | exact sh_sheet (by omega) | exact sh_items (by omega) | exact sh_sums (by omega)) (by rw [hP.2.2]; exact vp_in_nI (by omega) (by decide)) ?_
      refine wp_bipush (pc := 20) (v := 32) dX12_next_20 (by decide) ?_
      refine wp_icmp_ne (pc := 22) (tgt := 38) dX12_next_22 rfl (fun _ => ?_) (fun q => absurd q (by rw [hP.2.2, cp, hbp, show (32 : Int32) = nI 32 from rfl, nI_eq (by omega) (by omega)]; exact c))
      refine wp_aload_n (pc := 38) dX12_next_38 (by first | rfl | assumption | (repeat first | assumption | rfl | refine aG_n ?_ rfl rfl)) ?_
      refine wp_getI (pc := 39) dX12_next_39 fl_12_164 (by first | rfl | assumption | exact sh_house (by omega) | exact sh_wish (by omega) | exact sh_wor (by omega) | exact sh_bar (by omega) | exact sh_term (by omega) | exact sh_sheet (by omega) | exact sh_items (by omega) | exact sh_sums (by omega)) rfl ?_
      refine wp_aload_n (pc := 42) dX12_next_42 (by first | rfl | assumption | (repeat first | assumption | rfl | refine aG_n ?_ rfl rfl)) ?_
      refine wp_getI (pc := 43) dX12_next_43 fl_12_161 (by first | rfl | assumption | exact sh_house (by omega) | exact sh_wish (by omega) | exact sh_wor (by omega) | exact sh_bar (by omega) | exact sh_term (by omega) | exact sh_sheet (by omega) | exact sh_items (by omega) | exact sh_sums (by omega)) rfl ?_
      refine wp_icmp_ge (pc := 46) (tgt := 61) dX12_next_46 rfl (fun q => absurd q (by rw [hsz, hP.2.2]; exact nI_ge (by omega) (by omega))) (fun _ => ?_)
      refine wp_aload_n (pc := 49) dX12_next_49 (by first | rfl | assumption | (repeat first | assumption | rfl | refine aG_n ?_ rfl rfl)) ?_
      refine wp_getR (pc := 50) dX12_next_50 fl_12_38 (by first | rfl | assumption | exact sh_house (by omega) | exact sh_wish (by omega) | exact sh_wor (by omega) | exact sh_bar (by omega) | exact sh_term (by omega) | exact sh_sheet (by omega) | exact sh_items (by omega) | exact sh_sums (by omega)) rfl ?_
      refine wp_aload_n (pc := 53) dX12_next_53 (by first | rfl | assumption | (repeat first | assumption | rfl | refine aG_n ?_ rfl rfl)) ?_
      refine wp_getI (pc := 54) dX12_next_54 fl_12_164 (by first | rfl | assumption | exact sh_house (by omega) | exact sh_wish (by omega) | exact sh_wor (by omega) | exact sh_bar (by omega) | exact sh_term (by omega) | exact sh_sheet (by omega) | exact sh_items (by omega) | exact sh_sums (by omega)) rfl ?_
      refine wp_iald (pc := 57) dX12_next_57 (by first | rfl | assumption | exact sh_house (by omega) | exact sh_wish (by omega) | exact sh_wor (by omega) | exact sh_bar (by omega) | exact sh_term (by omega) | exact sh_sheet (by omega) | exact sh_items (by omega) | exact sh_sums (by omega)) (by rw [hP.2.2]; exact vp_in_nI (by omega) (by decide)) ?_
      refine wp_goto (pc := 58) (tgt := 62) dX12_next_58 rfl ?_
      refine wp_ireturn (pc := 62) dX12_next_62 rfl (by first | rfl | decide | assumption) ?_
      refine qEq ?_ (k _ hP)
      rw [hP.2.2, cp, hbp]
      unfold ch chI
      rw [if_pos hpn, if_neg (by omega)]
theorem c_X12_next {p : Nat} (hT : TG μ.1 86 10 96 b n) (hp : p ≤ n) (hP : μ.1 86 11 = nI p) (k : ∀ μ', PL 86 11 μ μ' (nx b n p) → Q (some (.int (chI (ch b n (nx b n p))))) μ') : WP X mX12_next 0 (lv_args 0 [.ref 86]) [] μ Q := l_X12_next hT k _ p rfl hp rfl _ (PL.of hP) _ rfl
theorem lb_i : ∀ c, c < 127 → 97 ≤ c → c ≤ 102 → (1 : Int32) <<< ((chI c - 97) &&& 31) = nI (lb c) := by decide +kernel
theorem chI_lt97 : ∀ c, c < 127 → (chI c < 97 ↔ c < 97) := by decide +kernel
theorem chI_ge103 : ∀ c, c < 127 → (103 ≤ chI c ↔ 103 ≤ c) := by decide +kernel
theorem chI_lt48 : ∀ c, c < 127 → (chI c < 48 ↔ c < 48) := by decide +kernel
theorem chI_gt57 : ∀ c, c < 127 → (57 < chI c ↔ 57 < c) := by decide +kernel
theorem c_letterBit {c : Nat} (hc : c < 127) (k : Q (some (.int (nI (lb c)))) μ) : WP X mX8_letterBit 0 (lv_args 0 [.int (chI c)]) [] μ Q := by
  by_cases c1 : c < 97
  · refine wp_iload_n (pc := 0) dX8_letterBit_0 (by first | rfl | assumption | (repeat first | assumption | rfl | refine aG_n ?_ rfl rfl)) ?_
    refine wp_bipush (pc := 1) (v := 97) dX8_letterBit_1 (by decide) ?_
    refine wp_icmp_lt (pc := 3) (tgt := 21) dX8_letterBit_3 rfl (fun _ => ?_) (fun q => absurd ((chI_lt97 c hc).mpr c1) q)
    refine wp_iconst (pc := 21) (v := 0) dX8_letterBit_21 (by decide) ?_
    refine wp_ireturn (pc := 22) dX8_letterBit_22 rfl (by first | rfl | decide | assumption) ?_
    refine qEq ?_ k
    unfold lb; rw [if_neg (by omega)]; rfl
  · by_cases c2 : 103 ≤ c
    · refine wp_iload_n (pc := 0) dX8_letterBit_0 (by first | rfl | assumption | (repeat first | assumption | rfl | refine aG_n ?_ rfl rfl)) ?_
      refine wp_bipush (pc := 1) (v := 97) dX8_letterBit_1 (by decide) ?_
      refine wp_icmp_lt (pc := 3) (tgt := 21) dX8_letterBit_3 rfl (fun q => absurd q (fun z => c1 ((chI_lt97 c hc).mp z))) (fun _ => ?_)
      refine wp_iload_n (pc := 6) dX8_letterBit_6 (by first | rfl | assumption | (repeat first | assumption | rfl | refine aG_n ?_ rfl rfl)) ?_
      refine wp_bipush (pc := 7) (v := 103) dX8_letterBit_7 (by decide) ?_
      refine wp_icmp_ge (pc := 9) (tgt := 21) dX8_letterBit_9 rfl (fun _ => ?_) (fun q => absurd ((chI_ge103 c hc).mpr c2) q)
      refine wp_iconst (pc := 21) (v := 0) dX8_letterBit_21 (by decide) ?_
      refine wp_ireturn (pc := 22) dX8_letterBit_22 rfl (by first | rfl | decide | assumption) ?_
      refine qEq ?_ k
      unfold lb; rw [if_neg (by omega)]; rfl
    · refine wp_iload_n (pc := 0) dX8_letterBit_0 (by first | rfl | assumption | (repeat first | assumption | rfl | refine aG_n ?_ rfl rfl)) ?_
      refine wp_bipush (pc := 1) (v := 97) dX8_letterBit_1 (by decide) ?_
      refine wp_icmp_lt (pc := 3) (tgt := 21) dX8_letterBit_3 rfl (fun q => absurd q (fun z => c1 ((chI_lt97 c hc).mp z))) (fun _ => ?_)
      refine wp_iload_n (pc := 6) dX8_letterBit_6 (by first | rfl | assumption | (repeat first | assumption | rfl | refine aG_n ?_ rfl rfl)) ?_
      refine wp_bipush (pc := 7) (v := 103) dX8_letterBit_7 (by decide) ?_
      refine wp_icmp_ge (pc := 9) (tgt := 21) dX8_letterBit_9 rfl (fun q => absurd q (fun z => c2 ((chI_ge103 c hc).mp z))) (fun _ => ?_)
      refine wp_iconst (pc := 12) (v := 1) dX8_letterBit_12 (by decide) ?_
      refine wp_iload_n (pc := 13) dX8_letterBit_13 (by first | rfl | assumption | (repeat first | assumption | rfl | refine aG_n ?_ rfl rfl)) ?_
      refine wp_bipush (pc := 14) (v := 97) dX8_letterBit_14 (by decide) ?_
      refine wp_isub (pc := 16) dX8_letterBit_16 ?_
      refine wp_ishl (pc := 17) dX8_letterBit_17 ?_
      refine wp_goto (pc := 18) (tgt := 22) dX8_letterBit_18 rfl ?_
      refine wp_ireturn (pc := 22) dX8_letterBit_22 rfl (by first | rfl | decide | assumption) ?_
      refine qEq ?_ k
      exact lb_i c hc (by omega) (by omega)
theorem c_isDigit {c : Nat} (hc : c < 127) (kt : dg c → Q (some (.int 1)) μ) (kf : ¬ dg c → Q (some (.int 0)) μ) : WP X mX8_isDigit 0 (lv_args 0 [.int (chI c)]) [] μ Q := by
  by_cases c1 : c < 48
  · refine wp_iload_n (pc := 0) dX8_isDigit_0 (by first | rfl | assumption | (repeat first | assumption | rfl | refine aG_n ?_ rfl rfl)) ?_
    refine wp_bipush (pc := 1) (v := 48) dX8_isDigit_1 (by decide) ?_
    refine wp_icmp_lt (pc := 3) (tgt := 16) dX8_isDigit_3 rfl (fun _ => ?_) (fun q => absurd ((chI_lt48 c hc).mpr c1) q)
    refine wp_iconst (pc := 16) (v := 0) dX8_isDigit_16 (by decide) ?_
    refine wp_ireturn (pc := 17) dX8_isDigit_17 rfl (by first | rfl | decide | assumption) ?_
    exact kf (fun z => by have := z.1; omega)
  · by_cases c2 : 57 < c
    · refine wp_iload_n (pc := 0) dX8_isDigit_0 (by first | rfl | assumption | (repeat first | assumption | rfl | refine aG_n ?_ rfl rfl)) ?_
      refine wp_bipush (pc := 1) (v := 48) dX8_isDigit_1 (by decide) ?_
      refine wp_icmp_lt (pc := 3) (tgt := 16) dX8_isDigit_3 rfl (fun q => absurd q (fun z => c1 ((chI_lt48 c hc).mp z))) (fun _ => ?_)
      refine wp_iload_n (pc := 6) dX8_isDigit_6 (by first | rfl | assumption | (repeat first | assumption | rfl | refine aG_n ?_ rfl rfl)) ?_
      refine wp_bipush (pc := 7) (v := 57) dX8_isDigit_7 (by decide) ?_
      refine wp_icmp_gt (pc := 9) (tgt := 16) dX8_isDigit_9 rfl (fun _ => ?_) (fun q => absurd ((chI_gt57 c hc).mpr c2) q)
      refine wp_iconst (pc := 16) (v := 0) dX8_isDigit_16 (by decide) ?_
      refine wp_ireturn (pc := 17) dX8_isDigit_17 rfl (by first | rfl | decide | assumption) ?_
      exact kf (fun z => by have := z.2; omega)
    · refine wp_iload_n (pc := 0) dX8_isDigit_0 (by first | rfl | assumption | (repeat first | assumption | rfl | refine aG_n ?_ rfl rfl)) ?_
      refine wp_bipush (pc := 1) (v := 48) dX8_isDigit_1 (by decide) ?_
      refine wp_icmp_lt (pc := 3) (tgt := 16) dX8_isDigit_3 rfl (fun q => absurd q (fun z => c1 ((chI_lt48 c hc).mp z))) (fun _ => ?_)
      refine wp_iload_n (pc := 6) dX8_isDigit_6 (by first | rfl | assumption | (repeat first | assumption | rfl | refine aG_n ?_ rfl rfl)) ?_
      refine wp_bipush (pc := 7) (v := 57) dX8_isDigit_7 (by decide) ?_
      refine wp_icmp_gt (pc := 9) (tgt := 16) dX8_isDigit_9 rfl (fun q => absurd q (fun z => c2 ((chI_gt57 c hc).mp z))) (fun _ => ?_)
      refine wp_iconst (pc := 12) (v := 1) dX8_isDigit_12 (by decide) ?_
      refine wp_goto (pc := 13) (tgt := 17) dX8_isDigit_13 rfl ?_
      refine wp_ireturn (pc := 17) dX8_isDigit_17 rfl (by first | rfl | decide | assumption) ?_
      exact kt ⟨by omega, by omega⟩
theorem in_let : ∀ c, c < 127 → (((97 : Int64).toInt ≤ (chI c).toInt64.toInt ∧ (chI c).toInt64.toInt ≤ (102 : Int64).toInt) ↔ (97 ≤ c ∧ c ≤ 102)) := by decide +kernel
theorem in_dg : ∀ c, c < 127 → (((48 : Int64).toInt ≤ (chI c).toInt64.toInt ∧ (chI c).toInt64.toInt ≤ (57 : Int64).toInt) ↔ dg c) := by decide +kernel
theorem l_let {r : Nat × Nat} (hT : TG μ.1 2 1 3 b n) (k : ∀ μ', PL 2 2 μ μ' r.1 → Q (some (.int (nI r.2))) μ') : ∀ (f i p s : Nat), i + f = 6 → p ≤ n → s < 64 → lF b n f p s = r → ∀ μ', PL 2 2 μ μ' p → ∀ L : aL, aL_get L 0 = some (.ref 2) → aL_get L 1 = some (.int (nI s)) → aL_get L 2 = some (.int (nI i)) → WP X mX8_readLetters 4 L [] μ' Q
  | 0, i, p, s, hi, hp, hs, hr, μ', hP, L, g0, g1, g2 => by
    obtain rfl : i = 6 := by omega
    unfold lF at hr
    subst hr
    refine wp_iload_n (pc := 4) dX8_readLetters_4 (by first | rfl | assumption | (repeat first | assumption | rfl | refine aG_n ?_ rfl rfl)) ?_
    refine wp_bipush (pc := 5) (v := 6) dX8_readLetters_5 (by decide) ?_
    refine wp_icmp_ge (pc := 7) (tgt := 46) dX8_readLetters_7 rfl (fun _ => ?_) (fun q => absurd (nI_le (a := 6) (b := 6) (by omega) (by omega)) q)
    refine wp_iload_n (pc := 46) dX8_readLetters_46 (by first | rfl | assumption | (repeat first | assumption | rfl | refine aG_n ?_ rfl rfl)) ?_
    refine wp_ireturn (pc := 47) dX8_readLetters_47 rfl (by first | rfl | decide | assumption) ?_
    exact k _ hP
  | f + 1, i, p, s, hi, hp, hs, hr, μ', hP, L, g0, g1, g2 => by
    have hc := ch_lt (p := nx b n p) hT.2.1
    have hn := hT.1
    have hl := lb_lt _ hc
    unfold lF at hr
    by_cases c : lb (ch b n (nx b n p)) ≤ s
    · rw [if_pos c] at hr
      subst hr
      refine wp_iload_n (pc := 4) dX8_readLetters_4 (by first | rfl | assumption | (repeat first | assumption | rfl | refine aG_n ?_ rfl rfl)) ?_
      refine wp_bipush (pc := 5) (v := 6) dX8_readLetters_5 (by decide) ?_
      refine wp_icmp_ge (pc := 7) (tgt := 46) dX8_readLetters_7 rfl (fun q => absurd q (nI_ge (a := i) (b := 6) (by omega) (by omega))) (fun _ => ?_)
      refine wp_aload_n (pc := 10) dX8_readLetters_10 (by first | rfl | assumption | (repeat first | assumption | rfl | refine aG_n ?_ rfl rfl)) ?_
      refine wp_cV (pc := 11) dX8_readLetters_11 lk_8_42 rfl (by decide) rfl (by first | rfl | assumption | exact sh_house (by omega) | exact sh_wish (by omega) | exact sh_wor (by omega) | exact sh_bar (by omega) | exact sh_term (by omega) | exact sh_sheet (by omega) | exact sh_items (by omega) | exact sh_sums (by omega)) rfl rfl ?_
      refine c_X8_next (TC hT hP) hp hP.2.2 (fun μ2 h2 => aK_i ?_)
      refine wp_cS (pc := 14) dX8_readLetters_14 lk_8_64 rfl rfl rfl (c_letterBit hc (aK_i ?_))
      refine wp_istore_n (pc := 17) dX8_readLetters_17 (by decide) ?_
      refine wp_iload_n (pc := 18) dX8_readLetters_18 (by first | rfl | assumption | (repeat first | assumption | rfl | refine aG_n ?_ rfl rfl)) ?_
      refine wp_iload_n (pc := 19) dX8_readLetters_19 (by first | rfl | assumption | (repeat first | assumption | rfl | refine aG_n ?_ rfl rfl)) ?_
      refine wp_icmp_gt (pc := 20) (tgt := 26) dX8_readLetters_20 rfl (fun q => absurd q (nI_nlt (by omega) (by omega))) (fun _ => ?_)
      refine wp_goto (pc := 23) (tgt := 46) dX8_readLetters_23 rfl ?_
      refine wp_iload_n (pc := 46) dX8_readLetters_46 (by first | rfl | assumption | (repeat first | assumption | rfl | refine aG_n ?_ rfl rfl)) ?_
      refine wp_ireturn (pc := 47) dX8_readLetters_47 rfl (by first | rfl | decide | assumption) ?_
      exact k _ (hP.trans h2)
    · rw [if_neg c] at hr
      have hq : nx b n p < n := ch_n (fun z => c (by rw [z, lb_0]; exact Nat.zero_le _))
      obtain ⟨u1, u2⟩ := lb_up s hs _ hc (by omega)
      have eo : nI s ||| nI (lb (ch b n (nx b n p))) = nI (s ||| lb (ch b n (nx b n p))) := or6 hs hl
      refine wp_iload_n (pc := 4) dX8_readLetters_4 (by first | rfl | assumption | (repeat first | assumption | rfl | refine aG_n ?_ rfl rfl)) ?_
      refine wp_bipush (pc := 5) (v := 6) dX8_readLetters_5 (by decide) ?_
      refine wp_icmp_ge (pc := 7) (tgt := 46) dX8_readLetters_7 rfl (fun q => absurd q (nI_ge (a := i) (b := 6) (by omega) (by omega))) (fun _ => ?_)
      refine wp_aload_n (pc := 10) dX8_readLetters_10 (by first | rfl | assumption | (repeat first | assumption | rfl | refine aG_n ?_ rfl rfl)) ?_
      refine wp_cV (pc := 11) dX8_readLetters_11 lk_8_42 rfl (by decide) rfl (by first | rfl | assumption | exact sh_house (by omega) | exact sh_wish (by omega) | exact sh_wor (by omega) | exact sh_bar (by omega) | exact sh_term (by omega) | exact sh_sheet (by omega) | exact sh_items (by omega) | exact sh_sums (by omega)) rfl rfl ?_
      refine c_X8_next (TC hT hP) hp hP.2.2 (fun μ2 h2 => aK_i ?_)
      refine wp_cS (pc := 14) dX8_readLetters_14 lk_8_64 rfl rfl rfl (c_letterBit hc (aK_i ?_))
      refine wp_istore_n (pc := 17) dX8_readLetters_17 (by decide) ?_
      refine wp_iload_n (pc := 18) dX8_readLetters_18 (by first | rfl | assumption | (repeat first | assumption | rfl | refine aG_n ?_ rfl rfl)) ?_
      refine wp_iload_n (pc := 19) dX8_readLetters_19 (by first | rfl | assumption | (repeat first | assumption | rfl | refine aG_n ?_ rfl rfl)) ?_
      refine wp_icmp_gt (pc := 20) (tgt := 26) dX8_readLetters_20 rfl (fun _ => ?_) (fun q => absurd (nI_lt (by omega) (by omega)) q)
      refine wp_iload_n (pc := 26) dX8_readLetters_26 (by first | rfl | assumption | (repeat first | assumption | rfl | refine aG_n ?_ rfl rfl)) ?_
      refine wp_iload_n (pc := 27) dX8_readLetters_27 (by first | rfl | assumption | (repeat first | assumption | rfl | refine aG_n ?_ rfl rfl)) ?_
      refine wp_ior (pc := 28) dX8_readLetters_28 ?_
      refine wp_istore_n (pc := 29) dX8_readLetters_29 (by decide) ?_
      refine wp_aload_n (pc := 30) dX8_readLetters_30 (by first | rfl | assumption | (repeat first | assumption | rfl | refine aG_n ?_ rfl rfl)) ?_
      refine wp_dupr (pc := 31) dX8_readLetters_31 ?_
      refine wp_getI (pc := 32) dX8_readLetters_32 fl_8_32 (by first | rfl | assumption | exact sh_house (by omega) | exact sh_wish (by omega) | exact sh_wor (by omega) | exact sh_bar (by omega) | exact sh_term (by omega) | exact sh_sheet (by omega) | exact sh_items (by omega) | exact sh_sums (by omega)) rfl ?_
      refine wp_iconst (pc := 35) (v := 1) dX8_readLetters_35 (by decide) ?_
      refine wp_iadd (pc := 36) dX8_readLetters_36 ?_
      refine wp_putI (pc := 37) dX8_readLetters_37 fl_8_32 (by first | rfl | assumption | exact sh_house (by omega) | exact sh_wish (by omega) | exact sh_wor (by omega) | exact sh_bar (by omega) | exact sh_term (by omega) | exact sh_sheet (by omega) | exact sh_items (by omega) | exact sh_sums (by omega)) rfl rfl rfl ?_
      refine wp_iinc (pc := 40) dX8_readLetters_40 (by decide) (by first | rfl | assumption | (repeat first | assumption | rfl | refine aG_n ?_ rfl rfl)) rfl ?_
      refine wp_goto (pc := 43) (tgt := 4) dX8_readLetters_43 rfl ?_
      exact l_let hT k f (i + 1) _ _ (by omega) (by omega) u1 hr _ ((hP.trans h2).up (by rw [h2.2.2, nI_1])) _ (by first | rfl | assumption | (repeat first | assumption | rfl | refine aG_n ?_ rfl rfl)) (by rw [← eo]; first | rfl | assumption | (repeat first | assumption | rfl | refine aG_n ?_ rfl rfl)) (by rw [← nI_i1]; first | rfl | assumption | (repeat first | assumption | rfl | refine aG_n ?_ rfl rfl))
theorem c_X8_readLetters {p : Nat} (hT : TG μ.1 2 1 3 b n) (hp : p ≤ n) (hP : μ.1 2 2 = nI p) (k : ∀ μ', PL 2 2 μ μ' (lF b n 6 p 0).1 → Q (some (.int (nI (lF b n 6 p 0).2))) μ') : WP X mX8_readLetters 0 (lv_args 0 [.ref 2]) [] μ Q := by
  refine wp_iconst (pc := 0) (v := 0) dX8_readLetters_0 (by decide) ?_
  refine wp_istore_n (pc := 1) dX8_readLetters_1 (by decide) ?_
  refine wp_iconst (pc := 2) (v := 0) dX8_readLetters_2 (by decide) ?_
  refine wp_istore_n (pc := 3) dX8_readLetters_3 (by decide) ?_
  exact l_let hT k 6 0 p 0 (by omega) hp (by decide) rfl _ (PL.of hP) _ (by first | rfl | assumption | (repeat first | assumption | rfl | refine aG_n ?_ rfl rfl)) (by first | rfl | assumption | (repeat first | assumption | rfl | refine aG_n ?_ rfl rfl)) (by first | rfl | assumption | (repeat first | assumption | rfl | refine aG_n ?_ rfl rfl))
theorem l_letM {r : Nat × Nat} (hT : TG μ.1 86 10 96 b n) (k : ∀ μ', PL 86 11 μ μ' (nx b n r.1) → Q (some (.int (nI r.2))) μ') : ∀ (f p s : Nat), f ≤ 6 → p ≤ n → s < 64 → 2 ^ (6 - f) ≤ s + 1 → lF b n f p s = r → ∀ μ', PL 86 11 μ μ' p → ∀ L : aL, aL_get L 0 = some (.ref 86) → aL_get L 1 = some (.int (nI s)) → WP X mX12_readLetters 2 L [] μ' Q
  | 0, p, s, hf, hp, hs, h2s, hr, μ', hP, L, g0, g1 => by
    have hc := ch_lt (p := nx b n p) hT.2.1
    have hn := hT.1
    have hl := lb_lt _ hc
    have h32 := lb_32 _ hc
    have hs63 : 64 ≤ s + 1 := h2s
    unfold lF at hr
    subst hr
    by_cases c : 97 ≤ ch b n (nx b n p) ∧ ch b n (nx b n p) ≤ 102
    · refine wp_aload_n (pc := 2) dX12_readLetters_2 (by first | rfl | assumption | (repeat first | assumption | rfl | refine aG_n ?_ rfl rfl)) ?_
      refine wp_cV (pc := 3) dX12_readLetters_3 lk_12_167 rfl (by decide) rfl (by first | rfl | assumption | exact sh_house (by omega) | exact sh_wish (by omega) | exact sh_wor (by omega) | exact sh_bar (by omega) | exact sh_term (by omega) | exact sh_sheet (by omega) | exact sh_items (by omega) | exact sh_sums (by omega)) rfl rfl ?_
      refine c_X12_next (TM hT hP) hp hP.2.2 (fun μ2 h2 => aK_i ?_)
      refine wp_i2l (pc := 6) dX12_readLetters_6 ?_
      refine wp_ldc2 (pc := 7) dX12_readLetters_7 cl_12_171 ?_
      refine wp_ldc2 (pc := 10) dX12_readLetters_10 cl_12_173 ?_
      refine wp_cS (pc := 13) dX12_readLetters_13 lk_12_133 rfl rfl rfl (c_X12_in (fun _ => aK_i ?_) (fun q => absurd ((in_let _ hc).mpr c) q))
      refine wp_if_eq (pc := 16) (tgt := 57) dX12_readLetters_16 rfl (fun q => absurd q (by decide)) (fun _ => ?_)
      refine wp_iconst (pc := 19) (v := 1) dX12_readLetters_19 (by decide) ?_
      refine wp_aload_n (pc := 20) dX12_readLetters_20 (by first | rfl | assumption | (repeat first | assumption | rfl | refine aG_n ?_ rfl rfl)) ?_
      refine wp_cV (pc := 21) dX12_readLetters_21 lk_12_167 rfl (by decide) rfl (by first | rfl | assumption | exact sh_house (by omega) | exact sh_wish (by omega) | exact sh_wor (by omega) | exact sh_bar (by omega) | exact sh_term (by omega) | exact sh_sheet (by omega) | exact sh_items (by omega) | exact sh_sums (by omega)) rfl rfl ?_
      refine c_X12_next (TM hT (hP.trans h2)) (nx_le hp) h2.2.2 (fun μ3 h3 => aK_i ?_)
      rw [nx_i]
      rw [nx_i] at h3
      refine wp_bipush (pc := 24) (v := 97) dX12_readLetters_24 (by decide) ?_
      refine wp_isub (pc := 26) dX12_readLetters_26 ?_
      refine wp_ishl (pc := 27) dX12_readLetters_27 ?_
      refine wp_iload_n (pc := 28) dX12_readLetters_28 (by first | rfl | assumption | (repeat first | assumption | rfl | refine aG_n ?_ rfl rfl)) ?_
      refine wp_icmp_le (pc := 29) (tgt := 57) dX12_readLetters_29 rfl (fun _ => ?_) (fun q => absurd (by rw [lb_i _ hc c.1 c.2]; exact nI_le (by omega) (by omega)) q)
      refine wp_iload_n (pc := 57) dX12_readLetters_57 (by first | rfl | assumption | (repeat first | assumption | rfl | refine aG_n ?_ rfl rfl)) ?_
      refine wp_ireturn (pc := 58) dX12_readLetters_58 rfl (by first | rfl | decide | assumption) ?_
      exact k _ ((hP.trans h2).trans h3)
    · refine wp_aload_n (pc := 2) dX12_readLetters_2 (by first | rfl | assumption | (repeat first | assumption | rfl | refine aG_n ?_ rfl rfl)) ?_
      refine wp_cV (pc := 3) dX12_readLetters_3 lk_12_167 rfl (by decide) rfl (by first | rfl | assumption | exact sh_house (by omega) | exact sh_wish (by omega) | exact sh_wor (by omega) | exact sh_bar (by omega) | exact sh_term (by omega) | exact sh_sheet (by omega) | exact sh_items (by omega) | exact sh_sums (by omega)) rfl rfl ?_
      refine c_X12_next (TM hT hP) hp hP.2.2 (fun μ2 h2 => aK_i ?_)
      refine wp_i2l (pc := 6) dX12_readLetters_6 ?_
      refine wp_ldc2 (pc := 7) dX12_readLetters_7 cl_12_171 ?_
      refine wp_ldc2 (pc := 10) dX12_readLetters_10 cl_12_173 ?_
      refine wp_cS (pc := 13) dX12_readLetters_13 lk_12_133 rfl rfl rfl (c_X12_in (fun q => absurd q (fun z => c ((in_let _ hc).mp z))) (fun _ => aK_i ?_))
      refine wp_if_eq (pc := 16) (tgt := 57) dX12_readLetters_16 rfl (fun _ => ?_) (fun q => absurd q (by decide))
      refine wp_iload_n (pc := 57) dX12_readLetters_57 (by first | rfl | assumption | (repeat first | assumption | rfl | refine aG_n ?_ rfl rfl)) ?_
      refine wp_ireturn (pc := 58) dX12_readLetters_58 rfl (by first | rfl | decide | assumption) ?_
      exact k _ (hP.trans h2)
  | f + 1, p, s, hf, hp, hs, h2s, hr, μ', hP, L, g0, g1 => by
    have hc := ch_lt (p := nx b n p) hT.2.1
    have hn := hT.1
    have hl := lb_lt _ hc
    unfold lF at hr
    by_cases c : 97 ≤ ch b n (nx b n p) ∧ ch b n (nx b n p) ≤ 102
    · by_cases c2 : lb (ch b n (nx b n p)) ≤ s
      · rw [if_pos c2] at hr
        subst hr
        refine wp_aload_n (pc := 2) dX12_readLetters_2 (by first | rfl | assumption | (repeat first | assumption | rfl | refine aG_n ?_ rfl rfl)) ?_
        refine wp_cV (pc := 3) dX12_readLetters_3 lk_12_167 rfl (by decide) rfl (by first | rfl | assumption | exact sh_house (by omega) | exact sh_wish (by omega) | exact sh_wor (by omega) | exact sh_bar (by omega) | exact sh_term (by omega) | exact sh_sheet (by omega) | exact sh_items (by omega) | exact sh_sums (by omega)) rfl rfl ?_
        refine c_X12_next (TM hT hP) hp hP.2.2 (fun μ2 h2 => aK_i ?_)
        refine wp_i2l (pc := 6) dX12_readLetters_6 ?_
        refine wp_ldc2 (pc := 7) dX12_readLetters_7 cl_12_171 ?_
        refine wp_ldc2 (pc := 10) dX12_readLetters_10 cl_12_173 ?_
        refine wp_cS (pc := 13) dX12_readLetters_13 lk_12_133 rfl rfl rfl (c_X12_in (fun _ => aK_i ?_) (fun q => absurd ((in_let _ hc).mpr c) q))
        refine wp_if_eq (pc := 16) (tgt := 57) dX12_readLetters_16 rfl (fun q => absurd q (by decide)) (fun _ => ?_)
        refine wp_iconst (pc := 19) (v := 1) dX12_readLetters_19 (by decide) ?_
        refine wp_aload_n (pc := 20) dX12_readLetters_20 (by first | rfl | assumption | (repeat first | assumption | rfl | refine aG_n ?_ rfl rfl)) ?_
        refine wp_cV (pc := 21) dX12_readLetters_21 lk_12_167 rfl (by decide) rfl (by first | rfl | assumption | exact sh_house (by omega) | exact sh_wish (by omega) | exact sh_wor (by omega) | exact sh_bar (by omega) | exact sh_term (by omega) | exact sh_sheet (by omega) | exact sh_items (by omega) | exact sh_sums (by omega)) rfl rfl ?_
        refine c_X12_next (TM hT (hP.trans h2)) (nx_le hp) h2.2.2 (fun μ3 h3 => aK_i ?_)
        rw [nx_i]
        refine wp_bipush (pc := 24) (v := 97) dX12_readLetters_24 (by decide) ?_
        refine wp_isub (pc := 26) dX12_readLetters_26 ?_
        refine wp_ishl (pc := 27) dX12_readLetters_27 ?_
        refine wp_iload_n (pc := 28) dX12_readLetters_28 (by first | rfl | assumption | (repeat first | assumption | rfl | refine aG_n ?_ rfl rfl)) ?_
        refine wp_icmp_le (pc := 29) (tgt := 57) dX12_readLetters_29 rfl (fun _ => ?_) (fun q => absurd (by rw [lb_i _ hc c.1 c.2]; exact nI_le (by omega) (by omega)) q)
        refine wp_iload_n (pc := 57) dX12_readLetters_57 (by first | rfl | assumption | (repeat first | assumption | rfl | refine aG_n ?_ rfl rfl)) ?_
        refine wp_ireturn (pc := 58) dX12_readLetters_58 rfl (by first | rfl | decide | assumption) ?_
        exact k _ ((hP.trans h2).trans h3)
      · rw [if_neg c2] at hr
        have hq : nx b n p < n := ch_n (fun z => c2 (by rw [z, lb_0]; exact Nat.zero_le _))
        obtain ⟨u1, u2⟩ := lb_up s hs _ hc (by omega)
        have eo : nI s ||| nI (lb (ch b n (nx b n p))) = nI (s ||| lb (ch b n (nx b n p))) := or6 hs hl
        have hpw : 2 ^ (6 - f) ≤ (s ||| lb (ch b n (nx b n p))) + 1 := by
          rw [u2, show 6 - f = (6 - (f + 1)) + 1 by omega, Nat.pow_succ]; omega
        refine wp_aload_n (pc := 2) dX12_readLetters_2 (by first | rfl | assumption | (repeat first | assumption | rfl | refine aG_n ?_ rfl rfl)) ?_
        refine wp_cV (pc := 3) dX12_readLetters_3 lk_12_167 rfl (by decide) rfl (by first | rfl | assumption | exact sh_house (by omega) | exact sh_wish (by omega) | exact sh_wor (by omega) | exact sh_bar (by omega) | exact sh_term (by omega) | exact sh_sheet (by omega) | exact sh_items (by omega) | exact sh_sums (by omega)) rfl rfl ?_
        refine c_X12_next (TM hT hP) hp hP.2.2 (fun μ2 h2 => aK_i ?_)
        refine wp_i2l (pc := 6) dX12_readLetters_6 ?_
        refine wp_ldc2 (pc := 7) dX12_readLetters_7 cl_12_171 ?_
        refine wp_ldc2 (pc := 10) dX12_readLetters_10 cl_12_173 ?_
        refine wp_cS (pc := 13) dX12_readLetters_13 lk_12_133 rfl rfl rfl (c_X12_in (fun _ => aK_i ?_) (fun q => absurd ((in_let _ hc).mpr c) q))
        refine wp_if_eq (pc := 16) (tgt := 57) dX12_readLetters_16 rfl (fun q => absurd q (by decide)) (fun _ => ?_)
        refine wp_iconst (pc := 19) (v := 1) dX12_readLetters_19 (by decide) ?_
        refine wp_aload_n (pc := 20) dX12_readLetters_20 (by first | rfl | assumption | (repeat first | assumption | rfl | refine aG_n ?_ rfl rfl)) ?_
        refine wp_cV (pc := 21) dX12_readLetters_21 lk_12_167 rfl (by decide) rfl (by first | rfl | assumption | exact sh_house (by omega) | exact sh_wish (by omega) | exact sh_wor (by omega) | exact sh_bar (by omega) | exact sh_term (by omega) | exact sh_sheet (by omega) | exact sh_items (by omega) | exact sh_sums (by omega)) rfl rfl ?_
        refine c_X12_next (TM hT (hP.trans h2)) (nx_le hp) h2.2.2 (fun μ3 h3 => aK_i ?_)
        rw [nx_i]
        rw [nx_i] at h3
        refine wp_bipush (pc := 24) (v := 97) dX12_readLetters_24 (by decide) ?_
        refine wp_isub (pc := 26) dX12_readLetters_26 ?_
        refine wp_ishl (pc := 27) dX12_readLetters_27 ?_
        refine wp_iload_n (pc := 28) dX12_readLetters_28 (by first | rfl | assumption | (repeat first | assumption | rfl | refine aG_n ?_ rfl rfl)) ?_
        refine wp_icmp_le (pc := 29) (tgt := 57) dX12_readLetters_29 rfl (fun q => absurd q (by rw [lb_i _ hc c.1 c.2]; exact nI_ge (by omega) (by omega))) (fun _ => ?_)
        refine wp_iload_n (pc := 32) dX12_readLetters_32 (by first | rfl | assumption | (repeat first | assumption | rfl | refine aG_n ?_ rfl rfl)) ?_
        refine wp_iconst (pc := 33) (v := 1) dX12_readLetters_33 (by decide) ?_
        refine wp_aload_n (pc := 34) dX12_readLetters_34 (by first | rfl | assumption | (repeat first | assumption | rfl | refine aG_n ?_ rfl rfl)) ?_
        refine wp_cV (pc := 35) dX12_readLetters_35 lk_12_167 rfl (by decide) rfl (by first | rfl | assumption | exact sh_house (by omega) | exact sh_wish (by omega) | exact sh_wor (by omega) | exact sh_bar (by omega) | exact sh_term (by omega) | exact sh_sheet (by omega) | exact sh_items (by omega) | exact sh_sums (by omega)) rfl rfl ?_
        refine c_X12_next (TM hT ((hP.trans h2).trans h3)) (nx_le hp) h3.2.2 (fun μ4 h4 => aK_i ?_)
        rw [nx_i]
        rw [nx_i] at h4
        refine wp_bipush (pc := 38) (v := 97) dX12_readLetters_38 (by decide) ?_
        refine wp_isub (pc := 40) dX12_readLetters_40 ?_
        refine wp_ishl (pc := 41) dX12_readLetters_41 ?_
        refine wp_ior (pc := 42) dX12_readLetters_42 ?_
        refine wp_istore_n (pc := 43) dX12_readLetters_43 (by decide) ?_
        refine wp_aload_n (pc := 44) dX12_readLetters_44 (by first | rfl | assumption | (repeat first | assumption | rfl | refine aG_n ?_ rfl rfl)) ?_
        refine wp_dupr (pc := 45) dX12_readLetters_45 ?_
        refine wp_getI (pc := 46) dX12_readLetters_46 fl_12_164 (by first | rfl | assumption | exact sh_house (by omega) | exact sh_wish (by omega) | exact sh_wor (by omega) | exact sh_bar (by omega) | exact sh_term (by omega) | exact sh_sheet (by omega) | exact sh_items (by omega) | exact sh_sums (by omega)) rfl ?_
        refine wp_iconst (pc := 49) (v := 1) dX12_readLetters_49 (by decide) ?_
        refine wp_iadd (pc := 50) dX12_readLetters_50 ?_
        refine wp_putI (pc := 51) dX12_readLetters_51 fl_12_164 (by first | rfl | assumption | exact sh_house (by omega) | exact sh_wish (by omega) | exact sh_wor (by omega) | exact sh_bar (by omega) | exact sh_term (by omega) | exact sh_sheet (by omega) | exact sh_items (by omega) | exact sh_sums (by omega)) rfl rfl rfl ?_
        refine wp_goto (pc := 54) (tgt := 2) dX12_readLetters_54 rfl ?_
        exact l_letM hT k f _ _ (by omega) (by omega) u1 hpw hr _ ((((hP.trans h2).trans h3).trans h4).up (by rw [h4.2.2, nI_1])) _ (by first | rfl | assumption | (repeat first | assumption | rfl | refine aG_n ?_ rfl rfl)) (by rw [← eo, ← lb_i _ hc c.1 c.2]; first | rfl | assumption | (repeat first | assumption | rfl | refine aG_n ?_ rfl rfl))
    · have c2 : lb (ch b n (nx b n p)) ≤ s := by unfold lb; rw [if_neg c]; exact Nat.zero_le _
      rw [if_pos c2] at hr
      subst hr
      refine wp_aload_n (pc := 2) dX12_readLetters_2 (by first | rfl | assumption | (repeat first | assumption | rfl | refine aG_n ?_ rfl rfl)) ?_
      refine wp_cV (pc := 3) dX12_readLetters_3 lk_12_167 rfl (by decide) rfl (by first | rfl | assumption | exact sh_house (by omega) | exact sh_wish (by omega) | exact sh_wor (by omega) | exact sh_bar (by omega) | exact sh_term (by omega) | exact sh_sheet (by omega) | exact sh_items (by omega) | exact sh_sums (by omega)) rfl rfl ?_
      refine c_X12_next (TM hT hP) hp hP.2.2 (fun μ2 h2 => aK_i ?_)
      refine wp_i2l (pc := 6) dX12_readLetters_6 ?_
      refine wp_ldc2 (pc := 7) dX12_readLetters_7 cl_12_171 ?_
      refine wp_ldc2 (pc := 10) dX12_readLetters_10 cl_12_173 ?_
      refine wp_cS (pc := 13) dX12_readLetters_13 lk_12_133 rfl rfl rfl (c_X12_in (fun q => absurd q (fun z => c ((in_let _ hc).mp z))) (fun _ => aK_i ?_))
      refine wp_if_eq (pc := 16) (tgt := 57) dX12_readLetters_16 rfl (fun _ => ?_) (fun q => absurd q (by decide))
      refine wp_iload_n (pc := 57) dX12_readLetters_57 (by first | rfl | assumption | (repeat first | assumption | rfl | refine aG_n ?_ rfl rfl)) ?_
      refine wp_ireturn (pc := 58) dX12_readLetters_58 rfl (by first | rfl | decide | assumption) ?_
      refine k _ ?_
      rw [nx_i]
      exact hP.trans h2
theorem c_X12_readLetters {p : Nat} (hT : TG μ.1 86 10 96 b n) (hp : p ≤ n) (hP : μ.1 86 11 = nI p) (k : ∀ μ', PL 86 11 μ μ' (nx b n (lF b n 6 p 0).1) → Q (some (.int (nI (lF b n 6 p 0).2))) μ') : WP X mX12_readLetters 0 (lv_args 0 [.ref 86]) [] μ Q := by
  refine wp_iconst (pc := 0) (v := 0) dX12_readLetters_0 (by decide) ?_
  refine wp_istore_n (pc := 1) dX12_readLetters_1 (by decide) ?_
  exact l_letM hT k 6 p 0 (by omega) hp (by decide) (by decide) rfl _ (PL.of hP) _ (by first | rfl | assumption | (repeat first | assumption | rfl | refine aG_n ?_ rfl rfl)) (by first | rfl | assumption | (repeat first | assumption | rfl | refine aG_n ?_ rfl rfl))
end NEXT

noncomputable def ctF (P : Nat → Prop) : Nat → Nat
  | 0 => 0
  | n + 1 => ctF P n + @ite Nat (P n) (Classical.propDecidable (P n)) 1 0
theorem ctF_y {P : Nat → Prop} {n : Nat} (h : P n) : ctF P (n + 1) = ctF P n + 1 := by show ctF P n + _ = _; rw [if_pos h]
theorem ctF_n {P : Nat → Prop} {n : Nat} (h : ¬ P n) : ctF P (n + 1) = ctF P n := by show ctF P n + _ = _; rw [if_neg h]; rfl
theorem ctF_le (P : Nat → Prop) : ∀ n, ctF P n ≤ n
  | 0 => Nat.le_refl _
  | n + 1 => by
    have := ctF_le P n
    by_cases h : P n
    · rw [ctF_y h]; omega
    · rw [ctF_n h]; omega
theorem ctF_c {P P' : Nat → Prop} : ∀ n, (∀ c, c < n → (P' c ↔ P c)) → ctF P' n = ctF P n
  | 0, _ => rfl
  | n + 1, h => by
    by_cases q : P n
    · rw [ctF_y q, ctF_y ((h n (by omega)).mpr q), ctF_c n (fun c hc => h c (by omega))]
    · rw [ctF_n q, ctF_n (fun z => q ((h n (by omega)).mp z)), ctF_c n (fun c hc => h c (by omega))]
def svG (p c : Nat) : Nat → Int32 := fun s => sumF (gv p c) s 6
def gnG (p c td d : Nat) (s : Nat) (pr : Int32) : Int32 := if d = 0 then svG p c (td ^^^ s) - svG p c td - pr else svG p c (td ^^^ s) - svG p c td + pr
def gY (M : MM) (a b ta tb d p c pl : Nat) (lv : Int32) : Prop := (0 < pl ∧ isOf M (pl - 1)) ∧ (M (58 + 4 * two b a d) (two tb ta d ^^^ wu M (pl - 1)) = 0 ∧ inR (M 86 25 - M 102 (pl - 1)) 0 9999 ∧ inR (M 86 26 + M 102 (pl - 1)) 0 9999) ∧ lv ≤ gnG p c (two ta tb d) d (wu M (pl - 1)) (M 102 (pl - 1))
def okG (ta tb : Nat) : Nat → Bool := fun s => decide (nI s &&& ((nI ta ||| nI tb) ^^^ (-1)) = 0)
def wG (p c td : Nat) : Nat → Int32 := fun s => svG p c (td ^^^ s)
def pfG (p c td d : Nat) (lv : Int32) : Nat → Int32 := fun s => if d = 0 then svG p c (td ^^^ s) - svG p c td - lv else lv - (svG p c (td ^^^ s) - svG p c td)
def lvG (M : MM) (h k : Nat) : Int32 := lvV (M 90 h) (M 91 h) (M 89 h) k
def GW (M : MM) (a b ta tb d c pl : Nat) : Prop := ∃ kd st pr, chR (gY M a b ta tb d (ta ||| tb) c pl (lvG M (two a b d) (pl / 2))) (0 < pl ∧ isOf M (pl - 1)) (rkF (okG ta tb) (wG (ta ||| tb) c (two ta tb d)) 64) (pl / 2) (pfG (ta ||| tb) c (two ta tb d) d (lvG M (two a b d) (pl / 2))) kd st pr ∧ M 100 pl = kd ∧ M 101 pl = st ∧ M 102 pl = pr
theorem chR_c2 {Y Y' O O' : Prop} {q : (Nat → Nat) × Nat} {kk : Nat} {pf pf' : Nat → Int32} {kd st pr : Int32} (h1 : Y' ↔ Y) (h2 : O' ↔ O) (h4 : ¬ q.2 = 0 → pf' (q.1 (kk % q.2)) = pf (q.1 (kk % q.2))) : chR Y' O' q kk pf' kd st pr ↔ chR Y O q kk pf kd st pr := by
  unfold chR
  by_cases z : q.2 = 0
  · rw [h1, h2]; simp [z]
  · rw [h1, h2, h4 z]
/-- the class's cells when a guess is told -/
theorem CW_G {M M' : MM} {R' : Nat → Nat → Nat} {a b ta tb d c w pl : Nat} (hd : d < 2) (ha : a < 4) (hb : b < 4) (hta : ta < 64) (htb : tb < 64) (hpl : pl < w) (hp2 : pl % 2 = d) (hof : ∀ j, j < w → isOf M j → M 101 j = nI (wu M j) ∧ wu M j < 64) (hlv : lvH M' (two a b d) = lvG M (two a b d)) (hwd : M' 100 = M 100 ∧ M' 101 = M 101 ∧ M' 102 = M 102) (hws : ∀ i, i < 4 → M' (58 + 4 * i) = M (58 + 4 * i)) (hcn : M' 72 2 = M 86 25 ∧ M' 72 3 = M 86 26) (hg : ∀ s, s < 64 → M' 8 s = svG (ta ||| tb) c s ∧ M' 9 s = 0) : CW M' 72 (two ta tb) (two (if d = 0 then 7 else 56 + 4 * a) (if d = 0 then 56 + 4 * b else 7)) (rkF (okC M' (two ta tb) (two (if d = 0 then 7 else 56 + 4 * a) (if d = 0 then 56 + 4 * b else 7)) d) (wC M' (two ta tb) (two (if d = 0 then 7 else 56 + 4 * a) (if d = 0 then 56 + 4 * b else 7)) d) 64) (lvH M' (two a b d)) pl ↔ GW M a b ta tb d c pl := by
  have hvd : two (if d = 0 then 7 else 56 + 4 * a) (if d = 0 then 56 + 4 * b else 7) d = 7 := by
    obtain rfl | rfl : d = 0 ∨ d = 1 := by omega
    · rfl
    · rfl
  have htd : two ta tb d < 64 := by unfold two; split <;> assumption
  have eq : rkF (okC M' (two ta tb) (two (if d = 0 then 7 else 56 + 4 * a) (if d = 0 then 56 + 4 * b else 7)) d) (wC M' (two ta tb) (two (if d = 0 then 7 else 56 + 4 * a) (if d = 0 then 56 + 4 * b else 7)) d) 64 = rkF (okG ta tb) (wG (ta ||| tb) c (two ta tb d)) 64 := by
    refine rkF_c 64 (fun x hx => ⟨?_, ?_⟩)
    · unfold okC okG
      rw [hvd, (hg _ (x64 htd hx)).2]
      simp [two]
    · unfold wC wG
      rw [hvd, (hg _ (x64 htd hx)).1]
  obtain ⟨rp1, rp2⟩ := rkF_p (okG ta tb) (wG (ta ||| tb) c (two ta tb d)) 64
  unfold CW GW
  rw [eq, hlv, hwd.1, hwd.2.1, hwd.2.2, hp2]
  have eY : suP M' M' 72 (two ta tb) (two (if d = 0 then 7 else 56 + 4 * a) (if d = 0 then 56 + 4 * b else 7)) pl (lvG M (two a b d) (pl / 2)) ↔ gY M a b ta tb d (ta ||| tb) c pl (lvG M (two a b d) (pl / 2)) := by
    unfold suP gY isOf wu
    rw [hwd.1, hwd.2.1, hwd.2.2, hp2]
    refine and_congr_right (fun hO => ?_)
    have hu : (M 101 (pl - 1)).toNatClampNeg < 64 := (hof (pl - 1) (by omega) hO.2).2
    have hx := x64 htd hu
    unfold goB opB gnp gnd gnG
    rw [hvd, hcn.1, hcn.2, (hg _ hx).1, (hg _ htd).1]
    obtain rfl | rfl : d = 0 ∨ d = 1 := by omega
    · simp only [two, if_true, Nat.one_ne_zero, if_false]
      rw [show 7 + 2 = 9 from rfl, (hg _ (x64 hta hu)).2, e562, hws b hb]
      simp
    · simp only [two, if_true, Nat.one_ne_zero, if_false]
      rw [show 7 + 2 = 9 from rfl, (hg _ (x64 htb hu)).2, e562, hws a ha]
      simp
  have eO : (0 < pl ∧ isOf M' (pl - 1)) ↔ (0 < pl ∧ isOf M (pl - 1)) := by unfold isOf; rw [hwd.1]
  refine exists_congr fun kd => exists_congr fun st => exists_congr fun pr => and_congr_left fun _ => chR_c2 eY eO (fun hz => ?_)
  have hs := rp2 _ (Nat.mod_lt (pl / 2) (Nat.pos_of_ne_zero hz))
  unfold pfC pfG gnd
  rw [hvd, (hg _ (x64 htd hs)).1, (hg _ htd).1]
  obtain rfl | rfl : d = 0 ∨ d = 1 := by omega
  · rfl
  · rw [if_neg (by decide), if_neg (by decide), Int32.neg_sub]
section COUNT
variable {X : aX} {μ : Mm} {Q : Option Value → Mm → Prop} {a b w ta tb d n : Nat}
theorem p3_le {p t : Nat} (ht : t ≤ 6) : 3 ^ cn p t ≤ 729 := by
  have h1 := cn_le p t
  exact Nat.le_trans (Nat.pow_le_pow_right (by decide) (Nat.le_trans h1 ht)) (by decide)
theorem l_all3 {p : Nat} (hp : p < 64) {hv dv nv : Int32} (k : ∀ L : aL, aL_get L 0 = some (.ref 0) → aL_get L 1 = some (.int hv) → aL_get L 2 = some (.int dv) → aL_get L 3 = some (.int nv) → aL_get L 4 = some (.int (nI p)) → aL_get L 5 = some (.int (nI (3 ^ cn p 6))) → WP X mX11_countGuesses 51 L [] μ Q) : ∀ (f t : Nat), t + f = 6 → ∀ L : aL, aL_get L 0 = some (.ref 0) → aL_get L 1 = some (.int hv) → aL_get L 2 = some (.int dv) → aL_get L 3 = some (.int nv) → aL_get L 4 = some (.int (nI p)) → aL_get L 5 = some (.int (nI (3 ^ cn p t))) → aL_get L 6 = some (.int (nI t)) → WP X mX11_countGuesses 18 L [] μ Q
  | 0, t, ht, L, g0, g1, g2, g3, g4, g5, g6 => by
    obtain rfl : t = 6 := by omega
    refine wp_iload (pc := 18) dX11_countGuesses_18 (by first | rfl | assumption | (repeat first | assumption | rfl | refine aG_n ?_ rfl rfl)) ?_
    refine wp_bipush (pc := 20) (v := 6) dX11_countGuesses_20 (by decide) ?_
    refine wp_icmp_ge (pc := 22) (tgt := 51) dX11_countGuesses_22 rfl (fun _ => ?_) (fun q => absurd (nI_le (a := 6) (b := 6) (by omega) (by omega)) q)
    exact k _ g0 g1 g2 g3 g4 g5
  | f + 1, t, ht, L, g0, g1, g2, g3, g4, g5, g6 => by
    by_cases hb : p.testBit t = true
    · have e : nI (3 ^ cn p t) * 3 = nI (3 ^ cn p (t + 1)) := by rw [cn_y hb, Nat.pow_succ]; exact pk_mul _ 3
      refine wp_iload (pc := 18) dX11_countGuesses_18 (by first | rfl | assumption | (repeat first | assumption | rfl | refine aG_n ?_ rfl rfl)) ?_
      refine wp_bipush (pc := 20) (v := 6) dX11_countGuesses_20 (by decide) ?_
      refine wp_icmp_ge (pc := 22) (tgt := 51) dX11_countGuesses_22 rfl (fun q => absurd q (nI_ge (a := t) (b := 6) (by omega) (by omega))) (fun _ => ?_)
      refine wp_iload (pc := 25) dX11_countGuesses_25 (by first | rfl | assumption | (repeat first | assumption | rfl | refine aG_n ?_ rfl rfl)) ?_
      refine wp_iload (pc := 27) dX11_countGuesses_27 (by first | rfl | assumption | (repeat first | assumption | rfl | refine aG_n ?_ rfl rfl)) ?_
      refine wp_iload (pc := 29) dX11_countGuesses_29 (by first | rfl | assumption | (repeat first | assumption | rfl | refine aG_n ?_ rfl rfl)) ?_
      refine wp_cS (pc := 31) dX11_countGuesses_31 lk_11_392 rfl rfl rfl (c_X11_hasBit rfl hp (by omega) (fun _ => aK_i ?_) (fun q => absurd hb q))
      refine wp_if_eq (pc := 34) (tgt := 41) dX11_countGuesses_34 rfl (fun q => absurd q (by decide)) (fun _ => ?_)
      refine wp_iconst (pc := 37) (v := 3) dX11_countGuesses_37 (by decide) ?_
      refine wp_goto (pc := 38) (tgt := 42) dX11_countGuesses_38 rfl ?_
      refine wp_imul (pc := 42) dX11_countGuesses_42 ?_
      refine wp_istore (pc := 43) dX11_countGuesses_43 (by decide) ?_
      refine wp_iinc (pc := 45) dX11_countGuesses_45 (by decide) (by first | rfl | assumption | (repeat first | assumption | rfl | refine aG_n ?_ rfl rfl)) rfl ?_
      refine wp_goto (pc := 48) (tgt := 18) dX11_countGuesses_48 rfl ?_
      exact l_all3 hp k f (t + 1) (by omega) _ (by first | rfl | assumption | (repeat first | assumption | rfl | refine aG_n ?_ rfl rfl)) (by first | rfl | assumption | (repeat first | assumption | rfl | refine aG_n ?_ rfl rfl)) (by first | rfl | assumption | (repeat first | assumption | rfl | refine aG_n ?_ rfl rfl)) (by first | rfl | assumption | (repeat first | assumption | rfl | refine aG_n ?_ rfl rfl)) (by first | rfl | assumption | (repeat first | assumption | rfl | refine aG_n ?_ rfl rfl)) (by rw [← e]; first | rfl | assumption | (repeat first | assumption | rfl | refine aG_n ?_ rfl rfl)) (by rw [← nI_i1]; first | rfl | assumption | (repeat first | assumption | rfl | refine aG_n ?_ rfl rfl))
    · have e : nI (3 ^ cn p t) * 1 = nI (3 ^ cn p (t + 1)) := by rw [cn_n hb]; exact Int32.mul_one _
      refine wp_iload (pc := 18) dX11_countGuesses_18 (by first | rfl | assumption | (repeat first | assumption | rfl | refine aG_n ?_ rfl rfl)) ?_
      refine wp_bipush (pc := 20) (v := 6) dX11_countGuesses_20 (by decide) ?_
      refine wp_icmp_ge (pc := 22) (tgt := 51) dX11_countGuesses_22 rfl (fun q => absurd q (nI_ge (a := t) (b := 6) (by omega) (by omega))) (fun _ => ?_)
      refine wp_iload (pc := 25) dX11_countGuesses_25 (by first | rfl | assumption | (repeat first | assumption | rfl | refine aG_n ?_ rfl rfl)) ?_
      refine wp_iload (pc := 27) dX11_countGuesses_27 (by first | rfl | assumption | (repeat first | assumption | rfl | refine aG_n ?_ rfl rfl)) ?_
      refine wp_iload (pc := 29) dX11_countGuesses_29 (by first | rfl | assumption | (repeat first | assumption | rfl | refine aG_n ?_ rfl rfl)) ?_
      refine wp_cS (pc := 31) dX11_countGuesses_31 lk_11_392 rfl rfl rfl (c_X11_hasBit rfl hp (by omega) (fun q => absurd q hb) (fun _ => aK_i ?_))
      refine wp_if_eq (pc := 34) (tgt := 41) dX11_countGuesses_34 rfl (fun _ => ?_) (fun q => absurd q (by decide))
      refine wp_iconst (pc := 41) (v := 1) dX11_countGuesses_41 (by decide) ?_
      refine wp_imul (pc := 42) dX11_countGuesses_42 ?_
      refine wp_istore (pc := 43) dX11_countGuesses_43 (by decide) ?_
      refine wp_iinc (pc := 45) dX11_countGuesses_45 (by decide) (by first | rfl | assumption | (repeat first | assumption | rfl | refine aG_n ?_ rfl rfl)) rfl ?_
      refine wp_goto (pc := 48) (tgt := 18) dX11_countGuesses_48 rfl ?_
      exact l_all3 hp k f (t + 1) (by omega) _ (by first | rfl | assumption | (repeat first | assumption | rfl | refine aG_n ?_ rfl rfl)) (by first | rfl | assumption | (repeat first | assumption | rfl | refine aG_n ?_ rfl rfl)) (by first | rfl | assumption | (repeat first | assumption | rfl | refine aG_n ?_ rfl rfl)) (by first | rfl | assumption | (repeat first | assumption | rfl | refine aG_n ?_ rfl rfl)) (by first | rfl | assumption | (repeat first | assumption | rfl | refine aG_n ?_ rfl rfl)) (by rw [← e]; first | rfl | assumption | (repeat first | assumption | rfl | refine aG_n ?_ rfl rfl)) (by rw [← nI_i1]; first | rfl | assumption | (repeat first | assumption | rfl | refine aG_n ?_ rfl rfl))
def offG (μ μ' : Mm) : Prop := (∀ c, ¬ ((7 ≤ c ∧ c ≤ 10) ∨ c = 29 ∨ c = 30) → μ'.1 c = μ.1 c) ∧ μ'.2 = μ.2
/-- μ: behind suppose; M: at the call -/
theorem l_codes {M : MM} (hL : LK M μ.2 a b w ta tb) (hd : d < 2) (hn : ∀ k, k < n → 2 * k + d < w) (hn2 : n < 2 ^ 31) (hW : I_wish M) (hV : I_lev M) (hM : ∀ c, ¬ (c = 72) → μ.1 c = M c) (h72 : ∀ j, j < 4 → μ.1 72 j = M 74 j) (hR4 : μ.2 72 4 = (if d = 0 then 7 else 56 + 4 * a)) (hR5 : μ.2 72 5 = (if d = 0 then 56 + 4 * b else 7)) (hall : 3 ^ cn (ta ||| tb) 6 ≤ 729) (k : ∀ μ', offG μ μ' → Q (some (.int (nI (ctF (fun c => ∀ k, k < n → GW M a b ta tb d c (2 * k + d)) (3 ^ cn (ta ||| tb) 6))))) μ') : ∀ (f c : Nat), c + f = 3 ^ cn (ta ||| tb) 6 → ∀ μ', offG μ μ' → ∀ L : aL, aL_get L 0 = some (.ref 0) → aL_get L 1 = some (.int (nI (two a b d))) → aL_get L 2 = some (.int (nI d)) → aL_get L 3 = some (.int (nI n)) → aL_get L 4 = some (.int (nI (ta ||| tb))) → aL_get L 5 = some (.int (nI (3 ^ cn (ta ||| tb) 6))) → aL_get L 6 = some (.int (nI (ctF (fun c => ∀ k, k < n → GW M a b ta tb d c (2 * k + d)) c))) → aL_get L 7 = some (.int (nI c)) → WP X mX11_countGuesses 76 L [] μ' Q
  | 0, c, hc, μ', ho, L, g0, g1, g2, g3, g4, g5, g6, g7 => by
    obtain rfl : c = 3 ^ cn (ta ||| tb) 6 := by omega
    refine wp_iload (pc := 76) dX11_countGuesses_76 (by first | rfl | assumption | (repeat first | assumption | rfl | refine aG_n ?_ rfl rfl)) ?_
    refine wp_iload (pc := 78) dX11_countGuesses_78 (by first | rfl | assumption | (repeat first | assumption | rfl | refine aG_n ?_ rfl rfl)) ?_
    refine wp_icmp_ge (pc := 80) (tgt := 122) dX11_countGuesses_80 rfl (fun _ => ?_) (fun q => absurd (nI_le (by omega) (by omega)) q)
    refine wp_iload (pc := 122) dX11_countGuesses_122 (by first | rfl | assumption | (repeat first | assumption | rfl | refine aG_n ?_ rfl rfl)) ?_
    refine wp_ireturn (pc := 124) dX11_countGuesses_124 rfl (by first | rfl | decide | assumption) ?_
    exact k _ ho
  | f + 1, c, hc, μ', ho, L, g0, g1, g2, g3, g4, g5, g6, g7 => by
    obtain ⟨⟨ha, hb, hab⟩, -, ⟨hw, l31, l32⟩, ⟨hta, htb⟩, ⟨l51, l52, l53, l54⟩, ⟨l61, l62⟩, -, l8, l9⟩ := id hL
    have hh : two a b d < 4 := two_lt ha hb
    have hp := o64 hta htb
    have hof : ∀ j, j < w → isOf M j → M 101 j = nI (wu M j) ∧ wu M j < 64 := fun j hj z => ((l9 j hj).1 z).1
    have nxt : ∀ (μ3 : Mm) (v : Int32), offG μ μ3 → v = nI (ctF (fun c => ∀ k, k < n → GW M a b ta tb d c (2 * k + d)) (c + 1)) → ∀ L : aL, aL_get L 0 = some (.ref 0) → aL_get L 1 = some (.int (nI (two a b d))) → aL_get L 2 = some (.int (nI d)) → aL_get L 3 = some (.int (nI n)) → aL_get L 4 = some (.int (nI (ta ||| tb))) → aL_get L 5 = some (.int (nI (3 ^ cn (ta ||| tb) 6))) → aL_get L 6 = some (.int v) → aL_get L 7 = some (.int (nI c)) → WP X mX11_countGuesses 116 L [] μ3 Q := by
      intro μ3 v o3 hv L g0 g1 g2 g3 g4 g5 g6 g7
      subst hv
      refine wp_iinc (pc := 116) dX11_countGuesses_116 (by decide) (by first | rfl | assumption | (repeat first | assumption | rfl | refine aG_n ?_ rfl rfl)) rfl ?_
      refine wp_goto (pc := 119) (tgt := 76) dX11_countGuesses_119 rfl ?_
      exact l_codes hL hd hn hn2 hW hV hM h72 hR4 hR5 hall k f (c + 1) (by omega) _ o3 _ (by first | rfl | assumption | (repeat first | assumption | rfl | refine aG_n ?_ rfl rfl)) (by first | rfl | assumption | (repeat first | assumption | rfl | refine aG_n ?_ rfl rfl)) (by first | rfl | assumption | (repeat first | assumption | rfl | refine aG_n ?_ rfl rfl)) (by first | rfl | assumption | (repeat first | assumption | rfl | refine aG_n ?_ rfl rfl)) (by first | rfl | assumption | (repeat first | assumption | rfl | refine aG_n ?_ rfl rfl)) (by first | rfl | assumption | (repeat first | assumption | rfl | refine aG_n ?_ rfl rfl)) (by first | rfl | assumption | (repeat first | assumption | rfl | refine aG_n ?_ rfl rfl)) (by rw [← nI_i1]; first | rfl | assumption | (repeat first | assumption | rfl | refine aG_n ?_ rfl rfl))
    have fact : ∀ μ2 : Mm, (∀ x, ¬ (7 ≤ x ∧ x ≤ 10) → μ2.1 x = μ'.1 x) → μ2.2 = μ'.2 → (∀ s, s < 64 → μ2.1 8 s = sumF (gv (ta ||| tb) c) s 6 ∧ μ2.1 9 s = 0) → (∀ x, ¬ ((7 ≤ x ∧ x ≤ 10) ∨ x = 29 ∨ x = 30 ∨ x = 72) → μ2.1 x = M x) ∧ Pr μ2 72 (two ta tb) (two (if d = 0 then 7 else 56 + 4 * a) (if d = 0 then 56 + 4 * b else 7)) ∧ (∀ pl, pl < w → pl % 2 = d → (CW μ2.1 72 (two ta tb) (two (if d = 0 then 7 else 56 + 4 * a) (if d = 0 then 56 + 4 * b else 7)) (rkF (okC μ2.1 (two ta tb) (two (if d = 0 then 7 else 56 + 4 * a) (if d = 0 then 56 + 4 * b else 7)) d) (wC μ2.1 (two ta tb) (two (if d = 0 then 7 else 56 + 4 * a) (if d = 0 then 56 + 4 * b else 7)) d) 64) (lvH μ2.1 (two a b d)) pl ↔ GW M a b ta tb d c pl)) := by
      intro μ2 o2 r2 s2
      have hx : ∀ x, ¬ ((7 ≤ x ∧ x ≤ 10) ∨ x = 29 ∨ x = 30 ∨ x = 72) → μ2.1 x = M x := fun x hx => by
        rw [o2 x (by omega), ho.1 x (by omega), hM x (by omega)]
      have h72' : ∀ j, j < 4 → μ2.1 72 j = M 74 j := fun j hj => by rw [o2 72 (by omega), ho.1 72 (by omega)]; exact h72 j hj
      refine ⟨hx, ⟨rfl, fun e he => ?_⟩, fun pl h1 h2 => CW_G (R' := μ2.2) hd ha hb hta htb h1 h2 hof ?_ ⟨hx _ (by omega), hx _ (by omega), hx _ (by omega)⟩ (fun i hi => hx _ (by omega)) ⟨(h72' 2 (by omega)).trans l61, (h72' 3 (by omega)).trans l62⟩ s2⟩
      · have hb58 : ∀ i, i < 4 → ∀ s, s < 64 → μ2.1 (56 + 4 * i + 2) s = 0 ∨ μ2.1 (56 + 4 * i + 2) s = 1 := fun i hi s hs => by
          rw [e562, hx _ (by omega)]; exact m_bit01 (μ := (M, μ.2)) hW hi hs
        obtain rfl | rfl : e = 0 ∨ e = 1 := by omega
        · refine ⟨⟨(h72' 0 (by omega)).trans l53, hta⟩, by rw [r2, ho.2]; exact hR4, ?_, ?_⟩
          · show Wsh (if d = 0 then 7 else 56 + 4 * a)
            split
            · exact Wsh_g
            · exact Wsh_h ha
          · show ∀ s, s < 64 → μ2.1 ((if d = 0 then 7 else 56 + 4 * a) + 2) s = 0 ∨ μ2.1 ((if d = 0 then 7 else 56 + 4 * a) + 2) s = 1
            split
            · exact fun s hs => Or.inl (s2 s hs).2
            · exact hb58 a ha
        · refine ⟨⟨(h72' 1 (by omega)).trans l54, htb⟩, by rw [r2, ho.2]; exact hR5, ?_, ?_⟩
          · show Wsh (if d = 0 then 56 + 4 * b else 7)
            split
            · exact Wsh_h hb
            · exact Wsh_g
          · show ∀ s, s < 64 → μ2.1 ((if d = 0 then 56 + 4 * b else 7) + 2) s = 0 ∨ μ2.1 ((if d = 0 then 56 + 4 * b else 7) + 2) s = 1
            split
            · exact hb58 b hb
            · exact fun s hs => Or.inl (s2 s hs).2
      · funext q
        unfold lvH lvG
        obtain ⟨v1, v2, v3⟩ := hV _ hh
        rw [hx _ (by omega), v1.1, v2.1, v3.1]
    have hNN : PrN 72 (two (if d = 0 then 7 else 56 + 4 * a) (if d = 0 then 56 + 4 * b else 7)) := ⟨by decide, fun e he => by
      unfold two
      split
      · split <;> omega
      · split <;> omega⟩
    have hpar : ∀ k, k < n → (2 * k + d) % 2 = d := fun k _ => by omega
    by_cases cP : ∀ k, k < n → GW M a b ta tb d c (2 * k + d)
    · have ec := ctF_y (P := fun c => ∀ k, k < n → GW M a b ta tb d c (2 * k + d)) (n := c) cP
      refine wp_iload (pc := 76) dX11_countGuesses_76 (by first | rfl | assumption | (repeat first | assumption | rfl | refine aG_n ?_ rfl rfl)) ?_
      refine wp_iload (pc := 78) dX11_countGuesses_78 (by first | rfl | assumption | (repeat first | assumption | rfl | refine aG_n ?_ rfl rfl)) ?_
      refine wp_icmp_ge (pc := 80) (tgt := 122) dX11_countGuesses_80 rfl (fun q => absurd q (nI_ge (by omega) (by omega))) (fun _ => ?_)
      refine wp_aload_n (pc := 83) dX11_countGuesses_83 (by first | rfl | assumption | (repeat first | assumption | rfl | refine aG_n ?_ rfl rfl)) ?_
      refine wp_iload (pc := 84) dX11_countGuesses_84 (by first | rfl | assumption | (repeat first | assumption | rfl | refine aG_n ?_ rfl rfl)) ?_
      refine wp_iload (pc := 86) dX11_countGuesses_86 (by first | rfl | assumption | (repeat first | assumption | rfl | refine aG_n ?_ rfl rfl)) ?_
      refine wp_cV (pc := 88) dX11_countGuesses_88 lk_11_416 rfl (by decide) rfl (by first | rfl | assumption | exact sh_house (by omega) | exact sh_wish (by omega) | exact sh_wor (by omega) | exact sh_bar (by omega) | exact sh_term (by omega) | exact sh_sheet (by omega) | exact sh_items (by omega) | exact sh_sums (by omega)) rfl rfl ?_
      refine c_X11_makeGuess hp (by omega) (fun μ2 o2 r2 s2 => aK_v ?_)
      obtain ⟨hx, hPr, hCW⟩ := fact μ2 o2 r2 s2
      refine wp_iload (pc := 91) dX11_countGuesses_91 (by first | rfl | assumption | (repeat first | assumption | rfl | refine aG_n ?_ rfl rfl)) ?_
      refine wp_aload_n (pc := 93) dX11_countGuesses_93 (by first | rfl | assumption | (repeat first | assumption | rfl | refine aG_n ?_ rfl rfl)) ?_
      refine wp_aload_n (pc := 94) dX11_countGuesses_94 (by first | rfl | assumption | (repeat first | assumption | rfl | refine aG_n ?_ rfl rfl)) ?_
      refine wp_getR (pc := 95) dX11_countGuesses_95 fl_11_11 (by first | rfl | assumption | exact sh_house (by omega) | exact sh_wish (by omega) | exact sh_wor (by omega) | exact sh_bar (by omega) | exact sh_term (by omega) | exact sh_sheet (by omega) | exact sh_items (by omega) | exact sh_sums (by omega)) rfl ?_
      refine wp_iload_n (pc := 98) dX11_countGuesses_98 (by first | rfl | assumption | (repeat first | assumption | rfl | refine aG_n ?_ rfl rfl)) ?_
      refine wp_aald (pc := 99) dX11_countGuesses_99 (by first | rfl | assumption | exact sh_house (by omega) | exact sh_wish (by omega) | exact sh_wor (by omega) | exact sh_bar (by omega) | exact sh_term (by omega) | exact sh_sheet (by omega) | exact sh_items (by omega) | exact sh_sums (by omega)) (vp_in_nI hh (by decide)) (by decide) (el_house hh) ?_
      refine wp_iload_n (pc := 100) dX11_countGuesses_100 (by first | rfl | assumption | (repeat first | assumption | rfl | refine aG_n ?_ rfl rfl)) ?_
      refine wp_iload_n (pc := 101) dX11_countGuesses_101 (by first | rfl | assumption | (repeat first | assumption | rfl | refine aG_n ?_ rfl rfl)) ?_
      refine wp_cV (pc := 102) dX11_countGuesses_102 lk_11_419 rfl (by decide) rfl (by first | rfl | assumption | exact sh_house (by omega) | exact sh_wish (by omega) | exact sh_wor (by omega) | exact sh_bar (by omega) | exact sh_term (by omega) | exact sh_sheet (by omega) | exact sh_items (by omega) | exact sh_sums (by omega)) rfl rfl ?_
      refine c_X11_wouldHaveSaid hh hd hPr hNN hw (by rw [hx 73 (by omega)]; exact l31) (fun j hj => by rw [hx 75 (by omega), hx 76 (by omega), hx 77 (by omega), hx 100 (by omega), hx 101 (by omega), hx 102 (by omega)]; exact l8 j hj) (fun j hj z => by unfold isOf wu at *; rw [hx 100 (by omega)] at z; rw [hx 101 (by omega)]; exact hof j hj z) hn (fun _ μ3 o3 => aK_i ?_) (fun z => absurd (fun k hk => (hCW _ (hn k hk) (hpar k hk)).mpr (cP k hk)) z)
      refine wp_if_eq (pc := 105) (tgt := 112) dX11_countGuesses_105 rfl (fun q => absurd q (by decide)) (fun _ => ?_)
      refine wp_iconst (pc := 108) (v := 1) dX11_countGuesses_108 (by decide) ?_
      refine wp_goto (pc := 109) (tgt := 113) dX11_countGuesses_109 rfl ?_
      refine wp_iadd (pc := 113) dX11_countGuesses_113 ?_
      refine wp_istore (pc := 114) dX11_countGuesses_114 (by decide) ?_
      exact nxt _ (nI (ctF (fun c => ∀ k, k < n → GW M a b ta tb d c (2 * k + d)) c) + 1) ⟨fun x hxx => (o3.1 x (by omega) (by omega)).trans ((o2 x (by omega)).trans (ho.1 x hxx)), o3.2.trans (r2.trans ho.2)⟩ (by rw [ec]; exact nI_1 _) _ (by first | rfl | assumption | (repeat first | assumption | rfl | refine aG_n ?_ rfl rfl)) (by first | rfl | assumption | (repeat first | assumption | rfl | refine aG_n ?_ rfl rfl)) (by first | rfl | assumption | (repeat first | assumption | rfl | refine aG_n ?_ rfl rfl)) (by first | rfl | assumption | (repeat first | assumption | rfl | refine aG_n ?_ rfl rfl)) (by first | rfl | assumption | (repeat first | assumption | rfl | refine aG_n ?_ rfl rfl)) (by first | rfl | assumption | (repeat first | assumption | rfl | refine aG_n ?_ rfl rfl)) (by first | rfl | assumption | (repeat first | assumption | rfl | refine aG_n ?_ rfl rfl)) (by first | rfl | assumption | (repeat first | assumption | rfl | refine aG_n ?_ rfl rfl))
    · have ec := ctF_n (P := fun c => ∀ k, k < n → GW M a b ta tb d c (2 * k + d)) (n := c) cP
      refine wp_iload (pc := 76) dX11_countGuesses_76 (by first | rfl | assumption | (repeat first | assumption | rfl | refine aG_n ?_ rfl rfl)) ?_
      refine wp_iload (pc := 78) dX11_countGuesses_78 (by first | rfl | assumption | (repeat first | assumption | rfl | refine aG_n ?_ rfl rfl)) ?_
      refine wp_icmp_ge (pc := 80) (tgt := 122) dX11_countGuesses_80 rfl (fun q => absurd q (nI_ge (by omega) (by omega))) (fun _ => ?_)
      refine wp_aload_n (pc := 83) dX11_countGuesses_83 (by first | rfl | assumption | (repeat first | assumption | rfl | refine aG_n ?_ rfl rfl)) ?_
      refine wp_iload (pc := 84) dX11_countGuesses_84 (by first | rfl | assumption | (repeat first | assumption | rfl | refine aG_n ?_ rfl rfl)) ?_
      refine wp_iload (pc := 86) dX11_countGuesses_86 (by first | rfl | assumption | (repeat first | assumption | rfl | refine aG_n ?_ rfl rfl)) ?_
      refine wp_cV (pc := 88) dX11_countGuesses_88 lk_11_416 rfl (by decide) rfl (by first | rfl | assumption | exact sh_house (by omega) | exact sh_wish (by omega) | exact sh_wor (by omega) | exact sh_bar (by omega) | exact sh_term (by omega) | exact sh_sheet (by omega) | exact sh_items (by omega) | exact sh_sums (by omega)) rfl rfl ?_
      refine c_X11_makeGuess hp (by omega) (fun μ2 o2 r2 s2 => aK_v ?_)
      obtain ⟨hx, hPr, hCW⟩ := fact μ2 o2 r2 s2
      refine wp_iload (pc := 91) dX11_countGuesses_91 (by first | rfl | assumption | (repeat first | assumption | rfl | refine aG_n ?_ rfl rfl)) ?_
      refine wp_aload_n (pc := 93) dX11_countGuesses_93 (by first | rfl | assumption | (repeat first | assumption | rfl | refine aG_n ?_ rfl rfl)) ?_
      refine wp_aload_n (pc := 94) dX11_countGuesses_94 (by first | rfl | assumption | (repeat first | assumption | rfl | refine aG_n ?_ rfl rfl)) ?_
      refine wp_getR (pc := 95) dX11_countGuesses_95 fl_11_11 (by first | rfl | assumption | exact sh_house (by omega) | exact sh_wish (by omega) | exact sh_wor (by omega) | exact sh_bar (by omega) | exact sh_term (by omega) | exact sh_sheet (by omega) | exact sh_items (by omega) | exact sh_sums (by omega)) rfl ?_
      refine wp_iload_n (pc := 98) dX11_countGuesses_98 (by first | rfl | assumption | (repeat first | assumption | rfl | refine aG_n ?_ rfl rfl)) ?_
      refine wp_aald (pc := 99) dX11_countGuesses_99 (by first | rfl | assumption | exact sh_house (by omega) | exact sh_wish (by omega) | exact sh_wor (by omega) | exact sh_bar (by omega) | exact sh_term (by omega) | exact sh_sheet (by omega) | exact sh_items (by omega) | exact sh_sums (by omega)) (vp_in_nI hh (by decide)) (by decide) (el_house hh) ?_
      refine wp_iload_n (pc := 100) dX11_countGuesses_100 (by first | rfl | assumption | (repeat first | assumption | rfl | refine aG_n ?_ rfl rfl)) ?_
      refine wp_iload_n (pc := 101) dX11_countGuesses_101 (by first | rfl | assumption | (repeat first | assumption | rfl | refine aG_n ?_ rfl rfl)) ?_
      refine wp_cV (pc := 102) dX11_countGuesses_102 lk_11_419 rfl (by decide) rfl (by first | rfl | assumption | exact sh_house (by omega) | exact sh_wish (by omega) | exact sh_wor (by omega) | exact sh_bar (by omega) | exact sh_term (by omega) | exact sh_sheet (by omega) | exact sh_items (by omega) | exact sh_sums (by omega)) rfl rfl ?_
      refine c_X11_wouldHaveSaid hh hd hPr hNN hw (by rw [hx 73 (by omega)]; exact l31) (fun j hj => by rw [hx 75 (by omega), hx 76 (by omega), hx 77 (by omega), hx 100 (by omega), hx 101 (by omega), hx 102 (by omega)]; exact l8 j hj) (fun j hj z => by unfold isOf wu at *; rw [hx 100 (by omega)] at z; rw [hx 101 (by omega)]; exact hof j hj z) hn (fun z => absurd (fun k hk => (hCW _ (hn k hk) (hpar k hk)).mp (z k hk)) cP) (fun _ μ3 o3 => aK_i ?_)
      refine wp_if_eq (pc := 105) (tgt := 112) dX11_countGuesses_105 rfl (fun _ => ?_) (fun q => absurd rfl q)
      refine wp_iconst (pc := 112) (v := 0) dX11_countGuesses_112 (by decide) ?_
      refine wp_iadd (pc := 113) dX11_countGuesses_113 ?_
      refine wp_istore (pc := 114) dX11_countGuesses_114 (by decide) ?_
      exact nxt _ (nI (ctF (fun c => ∀ k, k < n → GW M a b ta tb d c (2 * k + d)) c) + 0) ⟨fun x hxx => (o3.1 x (by omega) (by omega)).trans ((o2 x (by omega)).trans (ho.1 x hxx)), o3.2.trans (r2.trans ho.2)⟩ (by rw [ec]; exact Int32.add_zero _) _ (by first | rfl | assumption | (repeat first | assumption | rfl | refine aG_n ?_ rfl rfl)) (by first | rfl | assumption | (repeat first | assumption | rfl | refine aG_n ?_ rfl rfl)) (by first | rfl | assumption | (repeat first | assumption | rfl | refine aG_n ?_ rfl rfl)) (by first | rfl | assumption | (repeat first | assumption | rfl | refine aG_n ?_ rfl rfl)) (by first | rfl | assumption | (repeat first | assumption | rfl | refine aG_n ?_ rfl rfl)) (by first | rfl | assumption | (repeat first | assumption | rfl | refine aG_n ?_ rfl rfl)) (by first | rfl | assumption | (repeat first | assumption | rfl | refine aG_n ?_ rfl rfl)) (by first | rfl | assumption | (repeat first | assumption | rfl | refine aG_n ?_ rfl rfl))
theorem c_X11_countGuesses (hL : LK μ.1 μ.2 a b w ta tb) (hd : d < 2) (hn : ∀ k, k < n → 2 * k + d < w) (hn2 : n < 2 ^ 31) (hW : I_wish μ.1) (hV : I_lev μ.1) (k : ∀ μ', Smm μ.1 μ'.1 → (∀ c, 86 ≤ c → μ'.1 c = μ.1 c) → (∀ c, 55 ≤ c → c ≤ 70 → μ'.1 c = μ.1 c) → μ'.2 74 = μ.2 74 → Q (some (.int (nI (ctF (fun c => ∀ k, k < n → GW μ.1 a b ta tb d c (2 * k + d)) (3 ^ cn (ta ||| tb) 6))))) μ') : WP X mX11_countGuesses 0 (lv_args 0 [.ref 0, .int (nI (two a b d)), .int (nI d), .int (nI n)]) [] μ Q := by
  obtain ⟨⟨ha, hb, hab⟩, -, ⟨hw, l31, l32⟩, ⟨hta, htb⟩, ⟨l51, l52, l53, l54⟩, -, ⟨l71, l72⟩, -⟩ := id hL
  have hp := o64 hta htb
  have ep : μ.1 74 0 ||| μ.1 74 1 = nI (ta ||| tb) := by rw [l53, l54]; exact or6 hta htb
  refine wp_aload_n (pc := 0) dX11_countGuesses_0 (by first | rfl | assumption | (repeat first | assumption | rfl | refine aG_n ?_ rfl rfl)) ?_
  refine wp_getR (pc := 1) dX11_countGuesses_1 fl_11_92 (by first | rfl | assumption | exact sh_house (by omega) | exact sh_wish (by omega) | exact sh_wor (by omega) | exact sh_bar (by omega) | exact sh_term (by omega) | exact sh_sheet (by omega) | exact sh_items (by omega) | exact sh_sums (by omega)) rfl ?_
  refine wp_getR (pc := 4) dX11_countGuesses_4 fl_11_199 (by first | rfl | assumption | exact sh_house (by omega) | exact sh_wish (by omega) | exact sh_wor (by omega) | exact sh_bar (by omega) | exact sh_term (by omega) | exact sh_sheet (by omega) | exact sh_items (by omega) | exact sh_sums (by omega)) rfl ?_
  refine wp_cV (pc := 7) dX11_countGuesses_7 lk_11_258 rfl (by decide) rfl (by first | rfl | assumption | exact sh_house (by omega) | exact sh_wish (by omega) | exact sh_wor (by omega) | exact sh_bar (by omega) | exact sh_term (by omega) | exact sh_sheet (by omega) | exact sh_items (by omega) | exact sh_sums (by omega)) rfl rfl ?_
  refine wp_aload_n (pc := 0) dX4_pool_0 (by first | rfl | assumption | (repeat first | assumption | rfl | refine aG_n ?_ rfl rfl)) ?_
  refine wp_getI (pc := 1) dX4_pool_1 fl_4_21 (by first | rfl | assumption | exact sh_house (by omega) | exact sh_wish (by omega) | exact sh_wor (by omega) | exact sh_bar (by omega) | exact sh_term (by omega) | exact sh_sheet (by omega) | exact sh_items (by omega) | exact sh_sums (by omega)) rfl ?_
  refine wp_aload_n (pc := 4) dX4_pool_4 (by first | rfl | assumption | (repeat first | assumption | rfl | refine aG_n ?_ rfl rfl)) ?_
  refine wp_getI (pc := 5) dX4_pool_5 fl_4_24 (by first | rfl | assumption | exact sh_house (by omega) | exact sh_wish (by omega) | exact sh_wor (by omega) | exact sh_bar (by omega) | exact sh_term (by omega) | exact sh_sheet (by omega) | exact sh_items (by omega) | exact sh_sums (by omega)) rfl ?_
  refine wp_ior (pc := 8) dX4_pool_8 ?_
  refine wp_iretK (pc := 9) dX4_pool_9 rfl (by first | rfl | decide | assumption) ?_
  refine wp_istore (pc := 10) dX11_countGuesses_10 (by decide) ?_
  refine wp_iconst (pc := 12) (v := 1) dX11_countGuesses_12 (by decide) ?_
  refine wp_istore (pc := 13) dX11_countGuesses_13 (by decide) ?_
  refine wp_iconst (pc := 15) (v := 0) dX11_countGuesses_15 (by decide) ?_
  refine wp_istore (pc := 16) dX11_countGuesses_16 (by decide) ?_
  skip
  rw [ep]
  refine l_all3 hp (fun L g0 g1 g2 g3 g4 g5 => ?_) 6 0 (by omega) _ (by first | rfl | assumption | (repeat first | assumption | rfl | refine aG_n ?_ rfl rfl)) (by first | rfl | assumption | (repeat first | assumption | rfl | refine aG_n ?_ rfl rfl)) (by first | rfl | assumption | (repeat first | assumption | rfl | refine aG_n ?_ rfl rfl)) (by first | rfl | assumption | (repeat first | assumption | rfl | refine aG_n ?_ rfl rfl)) (by first | rfl | assumption | (repeat first | assumption | rfl | refine aG_n ?_ rfl rfl)) (by first | rfl | assumption | (repeat first | assumption | rfl | refine aG_n ?_ rfl rfl)) (by first | rfl | assumption | (repeat first | assumption | rfl | refine aG_n ?_ rfl rfl))
  refine wp_aload_n (pc := 51) dX11_countGuesses_51 (by first | rfl | assumption | (repeat first | assumption | rfl | refine aG_n ?_ rfl rfl)) ?_
  refine wp_getR (pc := 52) dX11_countGuesses_52 fl_11_84 (by first | rfl | assumption | exact sh_house (by omega) | exact sh_wish (by omega) | exact sh_wor (by omega) | exact sh_bar (by omega) | exact sh_term (by omega) | exact sh_sheet (by omega) | exact sh_items (by omega) | exact sh_sums (by omega)) rfl ?_
  refine wp_aload_n (pc := 55) dX11_countGuesses_55 (by first | rfl | assumption | (repeat first | assumption | rfl | refine aG_n ?_ rfl rfl)) ?_
  refine wp_getR (pc := 56) dX11_countGuesses_56 fl_11_92 (by first | rfl | assumption | exact sh_house (by omega) | exact sh_wish (by omega) | exact sh_wor (by omega) | exact sh_bar (by omega) | exact sh_term (by omega) | exact sh_sheet (by omega) | exact sh_items (by omega) | exact sh_sums (by omega)) rfl ?_
  refine wp_getR (pc := 59) dX11_countGuesses_59 fl_11_199 (by first | rfl | assumption | exact sh_house (by omega) | exact sh_wish (by omega) | exact sh_wor (by omega) | exact sh_bar (by omega) | exact sh_term (by omega) | exact sh_sheet (by omega) | exact sh_items (by omega) | exact sh_sums (by omega)) rfl ?_
  refine wp_iload_n (pc := 62) dX11_countGuesses_62 (by first | rfl | assumption | (repeat first | assumption | rfl | refine aG_n ?_ rfl rfl)) ?_
  refine wp_aload_n (pc := 63) dX11_countGuesses_63 (by first | rfl | assumption | (repeat first | assumption | rfl | refine aG_n ?_ rfl rfl)) ?_
  refine wp_getR (pc := 64) dX11_countGuesses_64 fl_11_29 (by first | rfl | assumption | exact sh_house (by omega) | exact sh_wish (by omega) | exact sh_wor (by omega) | exact sh_bar (by omega) | exact sh_term (by omega) | exact sh_sheet (by omega) | exact sh_items (by omega) | exact sh_sums (by omega)) rfl ?_
  refine wp_cV (pc := 67) dX11_countGuesses_67 lk_11_412 rfl (by decide) rfl (by first | rfl | assumption | exact sh_house (by omega) | exact sh_wish (by omega) | exact sh_wor (by omega) | exact sh_bar (by omega) | exact sh_term (by omega) | exact sh_sheet (by omega) | exact sh_items (by omega) | exact sh_sums (by omega)) rfl rfl ?_
  refine c_X4_suppose hd (fun μ1 o1 r1 h72 q4 q5 => aK_v ?_)
  refine wp_iconst (pc := 70) (v := 0) dX11_countGuesses_70 (by decide) ?_
  refine wp_istore (pc := 71) dX11_countGuesses_71 (by decide) ?_
  refine wp_iconst (pc := 73) (v := 0) dX11_countGuesses_73 (by decide) ?_
  refine wp_istore (pc := 74) dX11_countGuesses_74 (by decide) ?_
  skip
  have hL1 : LK μ.1 μ1.2 a b w ta tb := by
    obtain ⟨x1, x2, x3, x4, x5, x6, x7, x8⟩ := hL
    exact ⟨x1, x2, x3, x4, x5, x6, by rw [r1 74 (by omega)]; exact x7, x8⟩
  refine l_codes (M := μ.1) hL1 hd hn hn2 hW hV (fun c hc => o1 c hc) h72 (by rw [q4, l71]) (by rw [q5, l72]) (p3_le (by omega)) (fun μ2 o2 => k _ (fun c j hc => ?_) (fun c hc => ?_) (fun c h1 h2 => ?_) ?_) (3 ^ cn (ta ||| tb) 6) 0 (by omega) _ ⟨fun _ _ => rfl, rfl⟩ _ (by first | rfl | assumption | (repeat first | assumption | rfl | refine aG_n ?_ rfl rfl)) (by first | rfl | assumption | (repeat first | assumption | rfl | refine aG_n ?_ rfl rfl)) (by first | rfl | assumption | (repeat first | assumption | rfl | refine aG_n ?_ rfl rfl)) (by first | rfl | assumption | (repeat first | assumption | rfl | refine aG_n ?_ rfl rfl)) (by first | rfl | assumption | (repeat first | assumption | rfl | refine aG_n ?_ rfl rfl)) (by first | rfl | assumption | (repeat first | assumption | rfl | refine aG_n ?_ rfl rfl)) (by first | rfl | assumption | (repeat first | assumption | rfl | refine aG_n ?_ rfl rfl)) (by first | rfl | assumption | (repeat first | assumption | rfl | refine aG_n ?_ rfl rfl))
  · unfold scr at hc
    rw [o2.1 c (by omega), o1 c (by omega)]
  · rw [o2.1 c (by omega), o1 c (by omega)]
  · rw [o2.1 c (by omega), o1 c (by omega)]
  · rw [o2.2, r1 74 (by omega)]
end COUNT

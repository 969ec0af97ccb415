/-- a step of the model, from a memory whose cells are N's, beside a class that has gone on -/
theorem m_step {X : aX} {A N : MM} {R : Nat → Nat → Nat} {a b mo w : Nat} {μm : Mm} {Q : Option Value → Mm → Prop} (hI : Inv (mg A N, R)) (hT : TK (mg A N, R) a b mo w) (hw : ∀ c, 56 ≤ c → c ≤ 70 → ¬ (c - 55) % 4 = 0 → μm.1 c = A c) (hm : ∀ c j, 86 ≤ c → ¬ scr c j → μm.1 c j = N c j) (k : ∀ μ' kd st pr, chS (mg A N) a b w kd st pr → (∀ c, c < 86 → μ'.1 c = μm.1 c) → μ'.2 = μm.2 → (∀ c j, 86 ≤ c → ¬ scr c j → μ'.1 c j = nxN N a b mo w kd st pr c j) → Q (some (.int kd)) μ') : WP X mX12_machineWord 0 (lv_args 0 [.ref 86]) [] μm Q := by
  obtain ⟨⟨k0, k1⟩, ⟨ha, hb, hab⟩, ⟨kp1, kp2, kp3, kp4⟩, ⟨km1, km2, km3, km4⟩, ⟨kw1, kw2⟩, kPr, ⟨kc1, kc2⟩, kq, kof⟩ := id hT
  dsimp only at k0 kp2 kp4 km2 kw2 kof
  have h86 : mg A N 86 = N 86 := mg_hi (by omega)
  rw [h86] at k0 kp2 kp4 km2 kw2
  have hrow : ∀ c, (87 ≤ c ∧ c ≤ 96) ∨ (100 ≤ c ∧ c ≤ 102) → μm.1 c = mg A N c := fun c hc => by
    rw [mg_hi (by omega)]
    exact funext fun j => hm c j (by omega) (by unfold scr; omega)
  have hlo : ∀ i, i < 4 → μm.1 (56 + 4 * i) = mg A N (56 + 4 * i) ∧ μm.1 (57 + 4 * i) = mg A N (57 + 4 * i) ∧ μm.1 (58 + 4 * i) = mg A N (58 + 4 * i) := fun i hi => by
    rw [mg_lo (by omega), mg_lo (by omega), mg_lo (by omega)]
    exact ⟨hw _ (by omega) (by omega) (by omega), hw _ (by omega) (by omega) (by omega), hw _ (by omega) (by omega) (by omega)⟩
  have hW : I_wish μm.1 := wish_c ⟨hrow _ (by omega), hrow _ (by omega), hrow _ (by omega), hrow _ (by omega)⟩ hlo hI.2.2.2.1
  refine m_speak hW (fun i hi => ?_) ha hb hab (by rw [hm 86 15 (by omega) (by unfold scr; omega)]; exact k0) (by rw [hm 86 16 (by omega) (by unfold scr; omega)]; exact kp2) (by rw [hm 86 17 (by omega) (by unfold scr; omega)]; exact kp4) (by rw [hm 86 18 (by omega) (by unfold scr; omega)]; exact km2) (by rw [hm 86 19 (by omega) (by unfold scr; omega)]; exact kw2) km4 km3 (fun q hq z => ?_) (fun μ' kd st pr hS o => ?_)
  · rw [hrow 89 (by omega)]; exact (hI.2.2.1 i hi).1.2
  · unfold isOf wu at *
    rw [hrow 100 (by omega)] at z
    rw [hrow 101 (by omega)]
    exact ⟨(kof q hq z).1, (kof q hq z).2.1⟩
  · refine k _ kd st pr (chS_c ha hb (fun c hc => (hrow c (by omega))) (fun i hi => (hlo i hi).2) hS) (fun c hc => ?_) o.2 (fun c j hc hs => ?_)
    · dsimp only
      rw [nxN_lo hc]
      exact funext fun j => o.1 c j (by omega)
    · refine nxN_s (fun x y hx hy => ?_) c j hc hs
      have hy' := hy
      unfold scr at hy'
      rw [o.1 x y (by omega)]
      exact hm x y hx hy
theorem J_says : Jnt mX11_says mX12_says [] := by
  intro X μ Q hI k
  by_cases ho : μ.1 86 15 = 1
  · obtain ⟨a, b, mo, w, hT⟩ := TK_of hI ho
    have h73 : μ.1 73 0 = 1 := hI.2.2.2.2.2.1.1.trans ho
    have hI' : Inv (mg μ.1 μ.1, μ.2) := by rw [mg_self]; exact hI
    have hT' : TK (mg μ.1 μ.1, μ.2) a b mo w := by rw [mg_self]; exact hT
    refine wp_aload_n (pc := 0) dX11_says_0 (by first | rfl | assumption | (repeat first | assumption | rfl | refine aG_n ?_ rfl rfl)) ?_
    refine wp_getR (pc := 1) dX11_says_1 fl_11_92 (by first | rfl | assumption | exact sh_house (by omega) | exact sh_wish (by omega) | exact sh_wor (by omega) | exact sh_bar (by omega) | exact sh_term (by omega) | exact sh_sheet (by omega) | exact sh_items (by omega) | exact sh_sums (by omega)) rfl ?_
    refine wp_cV (pc := 4) dX11_says_4 lk_11_104 rfl (by decide) rfl (by first | rfl | assumption | exact sh_house (by omega) | exact sh_wish (by omega) | exact sh_wor (by omega) | exact sh_bar (by omega) | exact sh_term (by omega) | exact sh_sheet (by omega) | exact sh_items (by omega) | exact sh_sums (by omega)) rfl rfl (c_X7_isOpen (fun _ => aK_i ?_) (fun q => absurd h73 q))
    refine wp_if_ne (pc := 7) (tgt := 13) dX11_says_7 rfl (fun _ => ?_) (fun q => absurd q (by decide))
    refine wp_aload_n (pc := 13) dX11_says_13 (by first | rfl | assumption | (repeat first | assumption | rfl | refine aG_n ?_ rfl rfl)) ?_
    refine wp_cV (pc := 14) dX11_says_14 lk_11_243 rfl (by decide) rfl (by first | rfl | assumption | exact sh_house (by omega) | exact sh_wish (by omega) | exact sh_wor (by omega) | exact sh_bar (by omega) | exact sh_term (by omega) | exact sh_sheet (by omega) | exact sh_items (by omega) | exact sh_sums (by omega)) rfl rfl ?_
    refine c_speak (N := μ.1) hI' hT' (fun μ1 kd st pr hS sp r1 hI1 hO => aK_i ?_)
    refine wp_ireturn (pc := 17) dX11_says_17 rfl (by first | rfl | decide | assumption) ?_
    refine k _ _ (fun Q' k' => ?_)
    refine wp_aload_n (pc := 0) dX12_says_0 (by first | rfl | assumption | (repeat first | assumption | rfl | refine aG_n ?_ rfl rfl)) ?_
    refine wp_cV (pc := 1) dX12_says_1 lk_12_147 rfl (by decide) rfl (by first | rfl | assumption | exact sh_house (by omega) | exact sh_wish (by omega) | exact sh_wor (by omega) | exact sh_bar (by omega) | exact sh_term (by omega) | exact sh_sheet (by omega) | exact sh_items (by omega) | exact sh_sums (by omega)) rfl rfl (c_X12_isTalking (fun _ => aK_i ?_) (fun q => absurd (by rw [sp.1 86 (by omega)]; exact ho) q))
    refine wp_if_eq (pc := 4) (tgt := 14) dX12_says_4 rfl (fun q => absurd q (by decide)) (fun _ => ?_)
    refine wp_aload_n (pc := 7) dX12_says_7 (by first | rfl | assumption | (repeat first | assumption | rfl | refine aG_n ?_ rfl rfl)) ?_
    refine wp_cV (pc := 8) dX12_says_8 lk_12_292 rfl (by decide) rfl (by first | rfl | assumption | exact sh_house (by omega) | exact sh_wish (by omega) | exact sh_wor (by omega) | exact sh_bar (by omega) | exact sh_term (by omega) | exact sh_sheet (by omega) | exact sh_items (by omega) | exact sh_sums (by omega)) rfl rfl ?_
    refine m_step hI' hT' (fun c h1 h2 h3 => sp.2 c (by omega) (by omega) (by omega) (by omega) (by omega) (by omega)) (fun c j hc _ => by rw [sp.1 c hc]) (fun μ2 kd' st' pr' hS' lo r2 hi => aK_i ?_)
    obtain ⟨rfl, rfl, rfl⟩ := chR_u hS hS'
    refine wp_goto (pc := 11) (tgt := 16) dX12_says_11 rfl ?_
    refine wp_ireturn (pc := 16) dX12_says_16 rfl (by first | rfl | decide | assumption) ?_
    skip
    refine k' _ ?_
    obtain ⟨M2, R2⟩ := μ2
    refine Inv_s hI1 (fun c j hc => ?_) (by rw [show R2 = μ1.2 from r2])
    show M2 c j = _
    by_cases h : c < 86
    · rw [mg_lo h, show M2 c = μ1.1 c from lo c h]
    · rw [mg_hi (by omega)]; exact hi c j (by omega) hc
  · have hc : ¬ μ.1 73 0 = 1 := fun z => ho (hI.2.2.2.2.2.1.1.symm.trans z)
    refine wp_aload_n (pc := 0) dX11_says_0 (by first | rfl | assumption | (repeat first | assumption | rfl | refine aG_n ?_ rfl rfl)) ?_
    refine wp_getR (pc := 1) dX11_says_1 fl_11_92 (by first | rfl | assumption | exact sh_house (by omega) | exact sh_wish (by omega) | exact sh_wor (by omega) | exact sh_bar (by omega) | exact sh_term (by omega) | exact sh_sheet (by omega) | exact sh_items (by omega) | exact sh_sums (by omega)) rfl ?_
    refine wp_cV (pc := 4) dX11_says_4 lk_11_104 rfl (by decide) rfl (by first | rfl | assumption | exact sh_house (by omega) | exact sh_wish (by omega) | exact sh_wor (by omega) | exact sh_bar (by omega) | exact sh_term (by omega) | exact sh_sheet (by omega) | exact sh_items (by omega) | exact sh_sums (by omega)) rfl rfl (c_X7_isOpen (fun q => absurd q hc) (fun _ => aK_i ?_))
    refine wp_if_ne (pc := 7) (tgt := 13) dX11_says_7 rfl (fun q => absurd q (by decide)) (fun _ => ?_)
    refine wp_bipush (pc := 10) (v := -2) dX11_says_10 (by decide) ?_
    refine wp_ireturn (pc := 12) dX11_says_12 rfl (by first | rfl | decide | assumption) ?_
    refine k _ _ (fun Q' k' => ?_)
    refine wp_aload_n (pc := 0) dX12_says_0 (by first | rfl | assumption | (repeat first | assumption | rfl | refine aG_n ?_ rfl rfl)) ?_
    refine wp_cV (pc := 1) dX12_says_1 lk_12_147 rfl (by decide) rfl (by first | rfl | assumption | exact sh_house (by omega) | exact sh_wish (by omega) | exact sh_wor (by omega) | exact sh_bar (by omega) | exact sh_term (by omega) | exact sh_sheet (by omega) | exact sh_items (by omega) | exact sh_sums (by omega)) rfl rfl (c_X12_isTalking (fun q => absurd q ho) (fun _ => aK_i ?_))
    refine wp_if_eq (pc := 4) (tgt := 14) dX12_says_4 rfl (fun _ => ?_) (fun q => absurd q (by decide))
    refine wp_bipush (pc := 14) (v := -2) dX12_says_14 (by decide) ?_
    refine wp_ireturn (pc := 16) dX12_says_16 rfl (by first | rfl | decide | assumption) ?_
    exact k' _ hI
/-- the model's own way through a talk, from N on, beside a class that has ended it -/
def mRun (X : aX) (N A : MM) (R : Nat → Nat → Nat) (v : Int32) : Prop := ∀ (μm : Mm) (Q' : Option Value → Mm → Prop), (∀ c, c < 86 → μm.1 c = A c) → μm.2 = R → (∀ c j, 86 ≤ c → ¬ scr c j → μm.1 c j = N c j) → (∀ μ2, Inv μ2 → Q' (some (.int v)) μ2) → ∀ L : aL, aL_get L 0 = some (.ref 86) → WP X mX12_runs 10 L [] μm Q'
theorem Inv_mg {A N : MM} {R : Nat → Nat → Nat} {μm : Mm} (hI : Inv (mg A N, R)) (h1 : ∀ c, c < 86 → μm.1 c = A c) (h2 : μm.2 = R) (h3 : ∀ c j, 86 ≤ c → ¬ scr c j → μm.1 c j = N c j) : Inv μm := by
  obtain ⟨M2, R2⟩ := μm
  refine Inv_s hI (fun c j hc => ?_) (by rw [show R2 = R from h2])
  show M2 c j = _
  by_cases h : c < 86
  · rw [mg_lo h, show M2 c = A c from h1 c h]
  · rw [mg_hi (by omega)]; exact h3 c j (by omega) hc
theorem m_end {X : aX} {A N : MM} {R : Nat → Nat → Nat} (hI : Inv (mg A N, R)) (ho : ¬ N 86 15 = 1) : mRun X N A R (A 73 0) := by
  intro μm Q' h1 h2 h3 k L g0
  have e15 : μm.1 86 15 = N 86 15 := h3 86 15 (by omega) (by unfold scr; omega)
  refine wp_aload_n (pc := 10) dX12_runs_10 (by first | rfl | assumption | (repeat first | assumption | rfl | refine aG_n ?_ rfl rfl)) ?_
  refine wp_cV (pc := 11) dX12_runs_11 lk_12_147 rfl (by decide) rfl (by first | rfl | assumption | exact sh_house (by omega) | exact sh_wish (by omega) | exact sh_wor (by omega) | exact sh_bar (by omega) | exact sh_term (by omega) | exact sh_sheet (by omega) | exact sh_items (by omega) | exact sh_sums (by omega)) rfl rfl (c_X12_isTalking (fun q => absurd q (by rw [e15]; exact ho)) (fun _ => aK_i ?_))
  refine wp_if_eq (pc := 14) (tgt := 25) dX12_runs_14 rfl (fun _ => ?_) (fun q => absurd q (by decide))
  refine wp_aload_n (pc := 25) dX12_runs_25 (by first | rfl | assumption | (repeat first | assumption | rfl | refine aG_n ?_ rfl rfl)) ?_
  refine wp_getI (pc := 26) dX12_runs_26 fl_12_137 (by first | rfl | assumption | exact sh_house (by omega) | exact sh_wish (by omega) | exact sh_wor (by omega) | exact sh_bar (by omega) | exact sh_term (by omega) | exact sh_sheet (by omega) | exact sh_items (by omega) | exact sh_sums (by omega)) rfl ?_
  refine wp_ireturn (pc := 29) dX12_runs_29 rfl (by first | rfl | decide | assumption) ?_
  refine qEq ?_ (k _ (Inv_mg hI h1 h2 h3))
  have := hI.2.2.2.2.2.1.1
  dsimp only at this
  rw [mg_lo (by omega), mg_hi (by omega)] at this
  rw [e15, this]
section RUNS
variable {X : aX} {Q : Option Value → Mm → Prop}
theorem l_runs : ∀ (f i : Nat), i + f = 20 → ∀ (N : MM) (μ' : Mm), Inv (mg μ'.1 N, μ'.2) → (N 86 15 = 1 → ∃ w, i ≤ w ∧ w ≤ 40 ∧ N 86 19 = nI w) → (∀ v (μ'' : Mm), (∀ c, 86 ≤ c → μ''.1 c = μ'.1 c) → μ''.2 = μ'.2 → (∀ c, 56 ≤ c → c ≤ 70 → ¬ (c - 55) % 4 = 0 → μ''.1 c = μ'.1 c) → mRun X N μ''.1 μ''.2 v → Q (some (.int v)) μ'') → ∀ L : aL, aL_get L 0 = some (.ref 0) → aL_get L 1 = some (.int (nI i)) → WP X mX11_runs 15 L [] μ' Q
  | 0, i, hi, N, μ', hI, hwi, k, L, g0, g1 => by
    obtain rfl : i = 20 := by omega
    have ho : ¬ N 86 15 = 1 := by
      intro z
      obtain ⟨a, b, mo, w, hT⟩ := TK_of hI (by dsimp only; rw [mg_hi (by omega)]; exact z)
      obtain ⟨w', h1, h40, h2⟩ := hwi z
      obtain ⟨-, -, -, ⟨-, -, km3, km4⟩, ⟨-, kw2⟩, -⟩ := hT
      dsimp only at kw2
      rw [mg_hi (by omega), h2] at kw2
      have := (nI_eq (by omega) (by omega)).mp kw2
      omega
    refine wp_iload_n (pc := 15) dX11_runs_15 (by first | rfl | assumption | (repeat first | assumption | rfl | refine aG_n ?_ rfl rfl)) ?_
    refine wp_bipush (pc := 16) (v := 20) dX11_runs_16 (by decide) ?_
    refine wp_icmp_ge (pc := 18) (tgt := 42) dX11_runs_18 rfl (fun _ => ?_) (fun q => absurd (nI_le (a := 20) (b := 20) (by omega) (by omega)) q)
    refine wp_aload_n (pc := 42) dX11_runs_42 (by first | rfl | assumption | (repeat first | assumption | rfl | refine aG_n ?_ rfl rfl)) ?_
    refine wp_getR (pc := 43) dX11_runs_43 fl_11_92 (by first | rfl | assumption | exact sh_house (by omega) | exact sh_wish (by omega) | exact sh_wor (by omega) | exact sh_bar (by omega) | exact sh_term (by omega) | exact sh_sheet (by omega) | exact sh_items (by omega) | exact sh_sums (by omega)) rfl ?_
    refine wp_getI (pc := 46) dX11_runs_46 fl_11_206 (by first | rfl | assumption | exact sh_house (by omega) | exact sh_wish (by omega) | exact sh_wor (by omega) | exact sh_bar (by omega) | exact sh_term (by omega) | exact sh_sheet (by omega) | exact sh_items (by omega) | exact sh_sums (by omega)) rfl ?_
    refine wp_ireturn (pc := 49) dX11_runs_49 rfl (by first | rfl | decide | assumption) ?_
    exact k _ _ (fun _ _ => rfl) rfl (fun _ _ _ _ => rfl) (m_end hI ho)
  | f + 1, i, hi, N, μ', hI, hwi, k, L, g0, g1 => by
    by_cases ho : N 86 15 = 1
    · obtain ⟨a, b, mo, w, hT⟩ := TK_of hI (by dsimp only; rw [mg_hi (by omega)]; exact ho)
      have h73 : μ'.1 73 0 = 1 := by
        have := hI.2.2.2.2.2.1.1
        dsimp only at this
        rw [mg_lo (by omega), mg_hi (by omega)] at this
        exact this.trans ho
      refine wp_iload_n (pc := 15) dX11_runs_15 (by first | rfl | assumption | (repeat first | assumption | rfl | refine aG_n ?_ rfl rfl)) ?_
      refine wp_bipush (pc := 16) (v := 20) dX11_runs_16 (by decide) ?_
      refine wp_icmp_ge (pc := 18) (tgt := 42) dX11_runs_18 rfl (fun q => absurd q (nI_ge (a := i) (b := 20) (by omega) (by omega))) (fun _ => ?_)
      refine wp_aload_n (pc := 21) dX11_runs_21 (by first | rfl | assumption | (repeat first | assumption | rfl | refine aG_n ?_ rfl rfl)) ?_
      refine wp_getR (pc := 22) dX11_runs_22 fl_11_92 (by first | rfl | assumption | exact sh_house (by omega) | exact sh_wish (by omega) | exact sh_wor (by omega) | exact sh_bar (by omega) | exact sh_term (by omega) | exact sh_sheet (by omega) | exact sh_items (by omega) | exact sh_sums (by omega)) rfl ?_
      refine wp_cV (pc := 25) dX11_runs_25 lk_11_104 rfl (by decide) rfl (by first | rfl | assumption | exact sh_house (by omega) | exact sh_wish (by omega) | exact sh_wor (by omega) | exact sh_bar (by omega) | exact sh_term (by omega) | exact sh_sheet (by omega) | exact sh_items (by omega) | exact sh_sums (by omega)) rfl rfl (c_X7_isOpen (fun _ => aK_i ?_) (fun q => absurd h73 q))
      refine wp_if_eq (pc := 28) (tgt := 42) dX11_runs_28 rfl (fun q => absurd q (by decide)) (fun _ => ?_)
      refine wp_aload_n (pc := 31) dX11_runs_31 (by first | rfl | assumption | (repeat first | assumption | rfl | refine aG_n ?_ rfl rfl)) ?_
      refine wp_cV (pc := 32) dX11_runs_32 lk_11_243 rfl (by decide) rfl (by first | rfl | assumption | exact sh_house (by omega) | exact sh_wish (by omega) | exact sh_wor (by omega) | exact sh_bar (by omega) | exact sh_term (by omega) | exact sh_sheet (by omega) | exact sh_items (by omega) | exact sh_sums (by omega)) rfl rfl ?_
      refine c_speak (N := N) hI hT (fun μ1 kd st pr hS sp r1 hI1 hO => aK_i ?_)
      refine wp_popi (pc := 35) dX11_runs_35 ?_
      refine wp_iinc (pc := 36) dX11_runs_36 (by decide) (by first | rfl | assumption | (repeat first | assumption | rfl | refine aG_n ?_ rfl rfl)) rfl ?_
      refine wp_goto (pc := 39) (tgt := 15) dX11_runs_39 rfl ?_
      skip
      refine l_runs f (i + 1) (by omega) (nxN N a b mo w kd st pr) μ1 hI1 (fun _ => ⟨w + 1, ?_, ?_, nxN_w (fun z => (hO z).1)⟩) (fun v μ2 e1 e2 e3 pm => ?_) _ (by first | rfl | assumption | (repeat first | assumption | rfl | refine aG_n ?_ rfl rfl)) (by rw [← nI_i1]; first | rfl | assumption | (repeat first | assumption | rfl | refine aG_n ?_ rfl rfl))
      · obtain ⟨w', h1, h40, h2⟩ := hwi ho
        obtain ⟨-, -, -, ⟨-, -, km3, km4⟩, ⟨-, kw2⟩, -⟩ := hT
        dsimp only at kw2
        rw [mg_hi (by omega), h2] at kw2
        have := (nI_eq (by omega) (by omega)).mp kw2
        omega
      · obtain ⟨-, -, -, ⟨-, -, km3, km4⟩, -⟩ := hT
        omega
      · have hw2 : ∀ c, 56 ≤ c → c ≤ 70 → ¬ (c - 55) % 4 = 0 → μ2.1 c = μ'.1 c := fun c h1 h2 h3 => (e3 c h1 h2 h3).trans (sp.2 c (by omega) (by omega) (by omega) (by omega) (by omega) (by omega))
        refine k v μ2 (fun c hc => (e1 c hc).trans (sp.1 c hc)) (e2.trans r1) hw2 ?_
        intro μm Q' h1 h2 h3 k' L' g0'
        refine wp_aload_n (pc := 10) dX12_runs_10 (by first | rfl | assumption | (repeat first | assumption | rfl | refine aG_n ?_ rfl rfl)) ?_
        refine wp_cV (pc := 11) dX12_runs_11 lk_12_147 rfl (by decide) rfl (by first | rfl | assumption | exact sh_house (by omega) | exact sh_wish (by omega) | exact sh_wor (by omega) | exact sh_bar (by omega) | exact sh_term (by omega) | exact sh_sheet (by omega) | exact sh_items (by omega) | exact sh_sums (by omega)) rfl rfl (c_X12_isTalking (fun _ => aK_i ?_) (fun q => absurd (by rw [h3 86 15 (by omega) (by unfold scr; omega)]; exact ho) q))
        refine wp_if_eq (pc := 14) (tgt := 25) dX12_runs_14 rfl (fun q => absurd q (by decide)) (fun _ => ?_)
        refine wp_aload_n (pc := 17) dX12_runs_17 (by first | rfl | assumption | (repeat first | assumption | rfl | refine aG_n ?_ rfl rfl)) ?_
        refine wp_cV (pc := 18) dX12_runs_18 lk_12_292 rfl (by decide) rfl (by first | rfl | assumption | exact sh_house (by omega) | exact sh_wish (by omega) | exact sh_wor (by omega) | exact sh_bar (by omega) | exact sh_term (by omega) | exact sh_sheet (by omega) | exact sh_items (by omega) | exact sh_sums (by omega)) rfl rfl ?_
        refine m_step hI hT (fun c x1 x2 x3 => (h1 c (by omega)).trans (hw2 c x1 x2 x3)) h3 (fun μ3 kd' st' pr' hS' lo r3 hi3 => aK_i ?_)
        obtain ⟨rfl, rfl, rfl⟩ := chR_u hS hS'
        refine wp_istore_n (pc := 21) dX12_runs_21 (by decide) ?_
        refine wp_goto (pc := 22) (tgt := 10) dX12_runs_22 rfl ?_
        exact pm _ _ (fun c hc => (lo c hc).trans (h1 c hc)) (r3.trans h2) hi3 k' _ (by first | rfl | assumption | (repeat first | assumption | rfl | refine aG_n ?_ rfl rfl))
    · have hc : ¬ μ'.1 73 0 = 1 := fun z => ho (by
        have := hI.2.2.2.2.2.1.1
        dsimp only at this
        rw [mg_lo (by omega), mg_hi (by omega)] at this
        exact this.symm.trans z)
      refine wp_iload_n (pc := 15) dX11_runs_15 (by first | rfl | assumption | (repeat first | assumption | rfl | refine aG_n ?_ rfl rfl)) ?_
      refine wp_bipush (pc := 16) (v := 20) dX11_runs_16 (by decide) ?_
      refine wp_icmp_ge (pc := 18) (tgt := 42) dX11_runs_18 rfl (fun q => absurd q (nI_ge (a := i) (b := 20) (by omega) (by omega))) (fun _ => ?_)
      refine wp_aload_n (pc := 21) dX11_runs_21 (by first | rfl | assumption | (repeat first | assumption | rfl | refine aG_n ?_ rfl rfl)) ?_
      refine wp_getR (pc := 22) dX11_runs_22 fl_11_92 (by first | rfl | assumption | exact sh_house (by omega) | exact sh_wish (by omega) | exact sh_wor (by omega) | exact sh_bar (by omega) | exact sh_term (by omega) | exact sh_sheet (by omega) | exact sh_items (by omega) | exact sh_sums (by omega)) rfl ?_
      refine wp_cV (pc := 25) dX11_runs_25 lk_11_104 rfl (by decide) rfl (by first | rfl | assumption | exact sh_house (by omega) | exact sh_wish (by omega) | exact sh_wor (by omega) | exact sh_bar (by omega) | exact sh_term (by omega) | exact sh_sheet (by omega) | exact sh_items (by omega) | exact sh_sums (by omega)) rfl rfl (c_X7_isOpen (fun q => absurd q hc) (fun _ => aK_i ?_))
      refine wp_if_eq (pc := 28) (tgt := 42) dX11_runs_28 rfl (fun _ => ?_) (fun q => absurd q (by decide))
      refine wp_aload_n (pc := 42) dX11_runs_42 (by first | rfl | assumption | (repeat first | assumption | rfl | refine aG_n ?_ rfl rfl)) ?_
      refine wp_getR (pc := 43) dX11_runs_43 fl_11_92 (by first | rfl | assumption | exact sh_house (by omega) | exact sh_wish (by omega) | exact sh_wor (by omega) | exact sh_bar (by omega) | exact sh_term (by omega) | exact sh_sheet (by omega) | exact sh_items (by omega) | exact sh_sums (by omega)) rfl ?_
      refine wp_getI (pc := 46) dX11_runs_46 fl_11_206 (by first | rfl | assumption | exact sh_house (by omega) | exact sh_wish (by omega) | exact sh_wor (by omega) | exact sh_bar (by omega) | exact sh_term (by omega) | exact sh_sheet (by omega) | exact sh_items (by omega) | exact sh_sums (by omega)) rfl ?_
      refine wp_ireturn (pc := 49) dX11_runs_49 rfl (by first | rfl | decide | assumption) ?_
      exact k _ _ (fun _ _ => rfl) rfl (fun _ _ _ _ => rfl) (m_end hI ho)
end RUNS
theorem J_runs : Jnt mX11_runs mX12_runs [] := by
  intro X μ Q hI k
  by_cases ho : μ.1 86 15 = 1
  · have h73 : μ.1 73 0 = 1 := hI.2.2.2.2.2.1.1.trans ho
    have hI' : Inv (mg μ.1 μ.1, μ.2) := by rw [mg_self]; exact hI
    refine wp_aload_n (pc := 0) dX11_runs_0 (by first | rfl | assumption | (repeat first | assumption | rfl | refine aG_n ?_ rfl rfl)) ?_
    refine wp_getR (pc := 1) dX11_runs_1 fl_11_92 (by first | rfl | assumption | exact sh_house (by omega) | exact sh_wish (by omega) | exact sh_wor (by omega) | exact sh_bar (by omega) | exact sh_term (by omega) | exact sh_sheet (by omega) | exact sh_items (by omega) | exact sh_sums (by omega)) rfl ?_
    refine wp_cV (pc := 4) dX11_runs_4 lk_11_104 rfl (by decide) rfl (by first | rfl | assumption | exact sh_house (by omega) | exact sh_wish (by omega) | exact sh_wor (by omega) | exact sh_bar (by omega) | exact sh_term (by omega) | exact sh_sheet (by omega) | exact sh_items (by omega) | exact sh_sums (by omega)) rfl rfl (c_X7_isOpen (fun _ => aK_i ?_) (fun q => absurd h73 q))
    refine wp_if_ne (pc := 7) (tgt := 13) dX11_runs_7 rfl (fun _ => ?_) (fun q => absurd q (by decide))
    refine wp_iconst (pc := 13) (v := 0) dX11_runs_13 (by decide) ?_
    refine wp_istore_n (pc := 14) dX11_runs_14 (by decide) ?_
    skip
    refine l_runs 20 0 (by omega) μ.1 μ hI' (fun _ => ?_) (fun v μ2 e1 e2 e3 pm => ?_) _ (by first | rfl | assumption | (repeat first | assumption | rfl | refine aG_n ?_ rfl rfl)) (by first | rfl | assumption | (repeat first | assumption | rfl | refine aG_n ?_ rfl rfl))
    · obtain ⟨a, b, mo, w, hT⟩ := TK_of hI ho
      obtain ⟨-, -, -, ⟨-, -, km3, km4⟩, ⟨-, kw2⟩, -⟩ := hT
      exact ⟨w, Nat.zero_le _, by omega, kw2⟩
    · refine k _ _ (fun Q' k' => ?_)
      refine wp_aload_n (pc := 0) dX12_runs_0 (by first | rfl | assumption | (repeat first | assumption | rfl | refine aG_n ?_ rfl rfl)) ?_
      refine wp_cV (pc := 1) dX12_runs_1 lk_12_147 rfl (by decide) rfl (by first | rfl | assumption | exact sh_house (by omega) | exact sh_wish (by omega) | exact sh_wor (by omega) | exact sh_bar (by omega) | exact sh_term (by omega) | exact sh_sheet (by omega) | exact sh_items (by omega) | exact sh_sums (by omega)) rfl rfl (c_X12_isTalking (fun _ => aK_i ?_) (fun q => absurd (by rw [e1 86 (by omega)]; exact ho) q))
      refine wp_if_ne (pc := 4) (tgt := 10) dX12_runs_4 rfl (fun _ => ?_) (fun q => absurd q (by decide))
      exact pm _ _ (fun _ _ => rfl) rfl (fun c j hc _ => by rw [e1 c hc]) k' _ (by first | rfl | assumption | (repeat first | assumption | rfl | refine aG_n ?_ rfl rfl))
  · have hc : ¬ μ.1 73 0 = 1 := fun z => ho (hI.2.2.2.2.2.1.1.symm.trans z)
    refine wp_aload_n (pc := 0) dX11_runs_0 (by first | rfl | assumption | (repeat first | assumption | rfl | refine aG_n ?_ rfl rfl)) ?_
    refine wp_getR (pc := 1) dX11_runs_1 fl_11_92 (by first | rfl | assumption | exact sh_house (by omega) | exact sh_wish (by omega) | exact sh_wor (by omega) | exact sh_bar (by omega) | exact sh_term (by omega) | exact sh_sheet (by omega) | exact sh_items (by omega) | exact sh_sums (by omega)) rfl ?_
    refine wp_cV (pc := 4) dX11_runs_4 lk_11_104 rfl (by decide) rfl (by first | rfl | assumption | exact sh_house (by omega) | exact sh_wish (by omega) | exact sh_wor (by omega) | exact sh_bar (by omega) | exact sh_term (by omega) | exact sh_sheet (by omega) | exact sh_items (by omega) | exact sh_sums (by omega)) rfl rfl (c_X7_isOpen (fun q => absurd q hc) (fun _ => aK_i ?_))
    refine wp_if_ne (pc := 7) (tgt := 13) dX11_runs_7 rfl (fun q => absurd q (by decide)) (fun _ => ?_)
    refine wp_bipush (pc := 10) (v := -2) dX11_runs_10 (by decide) ?_
    refine wp_ireturn (pc := 12) dX11_runs_12 rfl (by first | rfl | decide | assumption) ?_
    refine k _ _ (fun Q' k' => ?_)
    refine wp_aload_n (pc := 0) dX12_runs_0 (by first | rfl | assumption | (repeat first | assumption | rfl | refine aG_n ?_ rfl rfl)) ?_
    refine wp_cV (pc := 1) dX12_runs_1 lk_12_147 rfl (by decide) rfl (by first | rfl | assumption | exact sh_house (by omega) | exact sh_wish (by omega) | exact sh_wor (by omega) | exact sh_bar (by omega) | exact sh_term (by omega) | exact sh_sheet (by omega) | exact sh_items (by omega) | exact sh_sums (by omega)) rfl rfl (c_X12_isTalking (fun q => absurd q ho) (fun _ => aK_i ?_))
    refine wp_if_ne (pc := 4) (tgt := 10) dX12_runs_4 rfl (fun q => absurd q (by decide)) (fun _ => ?_)
    refine wp_bipush (pc := 7) (v := -2) dX12_runs_7 (by decide) ?_
    refine wp_ireturn (pc := 9) dX12_runs_9 rfl (by first | rfl | decide | assumption) ?_
    exact k' _ hI

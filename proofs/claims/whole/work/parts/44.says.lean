section MSPEAK
variable {X : aX} {μ : Mm} {Q : Option Value → Mm → Prop} {a b mo w : Nat}
theorem c_X12_sayOffer {st pr : Int32} (h15 : μ.1 86 15 = 1) (h18 : μ.1 86 18 = nI mo) (h19 : μ.1 86 19 = nI w) (hw : w < mo) (hm : mo ≤ 20) (k : ∀ kd, ((0 < w ∧ isOf μ.1 (w - 1)) ∧ kd = 2) ∨ (¬ (0 < w ∧ isOf μ.1 (w - 1)) ∧ kd = 1) → Q (some (.int kd)) (sayM μ.1 w kd st pr (zOf kd w mo), μ.2)) : WP X mX12_sayOffer 0 (lv_args 0 [.ref 86, .int st, .int pr]) [] μ Q := by
  have hw20 : w ≤ 20 := by omega
  by_cases c : 0 < w ∧ isOf μ.1 (w - 1)
  · have c' := (ofW_p hw20 (Nat.le_refl w)).mpr c
    rw [← h19] at c'
    refine wp_aload_n (pc := 0) dX12_sayOffer_0 (by first | rfl | assumption | (repeat first | assumption | rfl | refine aG_n ?_ rfl rfl)) ?_
    refine wp_aload_n (pc := 1) dX12_sayOffer_1 (by first | rfl | assumption | (repeat first | assumption | rfl | refine aG_n ?_ rfl rfl)) ?_
    refine wp_getI (pc := 2) dX12_sayOffer_2 fl_12_244 (by first | rfl | assumption | exact sh_house (by omega) | exact sh_wish (by omega) | exact sh_wor (by omega) | exact sh_bar (by omega) | exact sh_term (by omega) | exact sh_sheet (by omega) | exact sh_items (by omega) | exact sh_sums (by omega)) rfl ?_
    refine wp_iconst (pc := 5) (v := 1) dX12_sayOffer_5 (by decide) ?_
    refine wp_isub (pc := 6) dX12_sayOffer_6 ?_
    refine wp_cV (pc := 7) dX12_sayOffer_7 lk_12_266 rfl (by decide) rfl (by first | rfl | assumption | exact sh_house (by omega) | exact sh_wish (by omega) | exact sh_wor (by omega) | exact sh_bar (by omega) | exact sh_term (by omega) | exact sh_sheet (by omega) | exact sh_items (by omega) | exact sh_sums (by omega)) rfl rfl (c_X12_isOffer hw20 h19 (fun _ => aK_i ?_) (fun q => absurd c' q))
    refine wp_if_eq (pc := 10) (tgt := 17) dX12_sayOffer_10 rfl (fun q => absurd q (by decide)) (fun _ => ?_)
    refine wp_iconst (pc := 13) (v := 2) dX12_sayOffer_13 (by decide) ?_
    refine wp_goto (pc := 14) (tgt := 18) dX12_sayOffer_14 rfl ?_
    refine wp_istore_n (pc := 18) dX12_sayOffer_18 (by decide) ?_
    refine wp_aload_n (pc := 19) dX12_sayOffer_19 (by first | rfl | assumption | (repeat first | assumption | rfl | refine aG_n ?_ rfl rfl)) ?_
    refine wp_iload_n (pc := 20) dX12_sayOffer_20 (by first | rfl | assumption | (repeat first | assumption | rfl | refine aG_n ?_ rfl rfl)) ?_
    refine wp_iload_n (pc := 21) dX12_sayOffer_21 (by first | rfl | assumption | (repeat first | assumption | rfl | refine aG_n ?_ rfl rfl)) ?_
    refine wp_iload_n (pc := 22) dX12_sayOffer_22 (by first | rfl | assumption | (repeat first | assumption | rfl | refine aG_n ?_ rfl rfl)) ?_
    refine wp_cV (pc := 23) dX12_sayOffer_23 lk_12_262 rfl (by decide) rfl (by first | rfl | assumption | exact sh_house (by omega) | exact sh_wish (by omega) | exact sh_wor (by omega) | exact sh_bar (by omega) | exact sh_term (by omega) | exact sh_sheet (by omega) | exact sh_items (by omega) | exact sh_sums (by omega)) rfl rfl (c_X12_say h19 h15 h18 hw hm (aK_v ?_))
    refine wp_iload_n (pc := 26) dX12_sayOffer_26 (by first | rfl | assumption | (repeat first | assumption | rfl | refine aG_n ?_ rfl rfl)) ?_
    refine wp_ireturn (pc := 27) dX12_sayOffer_27 rfl (by first | rfl | decide | assumption) ?_
    exact k 2 (Or.inl ⟨c, rfl⟩)
  · refine wp_aload_n (pc := 0) dX12_sayOffer_0 (by first | rfl | assumption | (repeat first | assumption | rfl | refine aG_n ?_ rfl rfl)) ?_
    refine wp_aload_n (pc := 1) dX12_sayOffer_1 (by first | rfl | assumption | (repeat first | assumption | rfl | refine aG_n ?_ rfl rfl)) ?_
    refine wp_getI (pc := 2) dX12_sayOffer_2 fl_12_244 (by first | rfl | assumption | exact sh_house (by omega) | exact sh_wish (by omega) | exact sh_wor (by omega) | exact sh_bar (by omega) | exact sh_term (by omega) | exact sh_sheet (by omega) | exact sh_items (by omega) | exact sh_sums (by omega)) rfl ?_
    refine wp_iconst (pc := 5) (v := 1) dX12_sayOffer_5 (by decide) ?_
    refine wp_isub (pc := 6) dX12_sayOffer_6 ?_
    refine wp_cV (pc := 7) dX12_sayOffer_7 lk_12_266 rfl (by decide) rfl (by first | rfl | assumption | exact sh_house (by omega) | exact sh_wish (by omega) | exact sh_wor (by omega) | exact sh_bar (by omega) | exact sh_term (by omega) | exact sh_sheet (by omega) | exact sh_items (by omega) | exact sh_sums (by omega)) rfl rfl (c_X12_isOffer hw20 h19 (fun q => absurd q (by rw [h19]; exact fun z => c ((ofW_p hw20 (Nat.le_refl w)).mp z))) (fun _ => aK_i ?_))
    refine wp_if_eq (pc := 10) (tgt := 17) dX12_sayOffer_10 rfl (fun _ => ?_) (fun q => absurd q (by decide))
    refine wp_iconst (pc := 17) (v := 1) dX12_sayOffer_17 (by decide) ?_
    refine wp_istore_n (pc := 18) dX12_sayOffer_18 (by decide) ?_
    refine wp_aload_n (pc := 19) dX12_sayOffer_19 (by first | rfl | assumption | (repeat first | assumption | rfl | refine aG_n ?_ rfl rfl)) ?_
    refine wp_iload_n (pc := 20) dX12_sayOffer_20 (by first | rfl | assumption | (repeat first | assumption | rfl | refine aG_n ?_ rfl rfl)) ?_
    refine wp_iload_n (pc := 21) dX12_sayOffer_21 (by first | rfl | assumption | (repeat first | assumption | rfl | refine aG_n ?_ rfl rfl)) ?_
    refine wp_iload_n (pc := 22) dX12_sayOffer_22 (by first | rfl | assumption | (repeat first | assumption | rfl | refine aG_n ?_ rfl rfl)) ?_
    refine wp_cV (pc := 23) dX12_sayOffer_23 lk_12_262 rfl (by decide) rfl (by first | rfl | assumption | exact sh_house (by omega) | exact sh_wish (by omega) | exact sh_wor (by omega) | exact sh_bar (by omega) | exact sh_term (by omega) | exact sh_sheet (by omega) | exact sh_items (by omega) | exact sh_sums (by omega)) rfl rfl (c_X12_say h19 h15 h18 hw hm (aK_v ?_))
    refine wp_iload_n (pc := 26) dX12_sayOffer_26 (by first | rfl | assumption | (repeat first | assumption | rfl | refine aG_n ?_ rfl rfl)) ?_
    refine wp_ireturn (pc := 27) dX12_sayOffer_27 rfl (by first | rfl | decide | assumption) ?_
    exact k 1 (Or.inr ⟨c, rfl⟩)
/-- no YES: what is wanted most, or a WALK -/
theorem l_mw49 {lv : Int32} (hlv : lv = lvM μ.1 a b w) (hY : ¬ (yP μ.1 a b w ∧ lvM μ.1 a b w ≤ yG μ.1 a b w)) (hW : I_wish μ.1) (ha : a < 4) (hb : b < 4) (hab : a ≠ b) (h15 : μ.1 86 15 = 1) (h16 : μ.1 86 16 = nI a) (h17 : μ.1 86 17 = nI b) (h18 : μ.1 86 18 = nI mo) (h19 : μ.1 86 19 = nI w) (hw : w < mo) (hm : mo ≤ 20) (k : ∀ μ' kd st pr, chS μ.1 a b w kd st pr → offM μ μ' → Q (some (.int kd)) (nxN μ'.1 a b mo w kd st pr, μ'.2)) (L : aL) (g0 : aL_get L 0 = some (.ref 86)) (g1 : aL_get L 1 = some (.int (nI (two a b (w % 2))))) (g2 : aL_get L 2 = some (.int (nI (w / 2)))) (g3 : aL_get L 3 = some (.int lv)) : WP X mX12_machineWord 49 L [] μ Q := by
  have hh : two a b (w % 2) < 4 := two_lt ha hb
  have hth := th_lt μ.1 (two a b (w % 2))
  obtain ⟨rp1, rp2⟩ := rkF_p (okM μ.1 a b (two a b (w % 2))) (wM μ.1 (two a b (w % 2))) 64
  generalize hq : rkF (okM μ.1 a b (two a b (w % 2))) (wM μ.1 (two a b (w % 2))) 64 = q at *
  have kS : ∀ μ' kd st pr, chR (yP μ.1 a b w ∧ lvM μ.1 a b w ≤ yG μ.1 a b w) (0 < w ∧ isOf μ.1 (w - 1)) q (w / 2) (pfM μ.1 (two a b (w % 2)) (w % 2) (lvM μ.1 a b w)) kd st pr → offM μ μ' → Q (some (.int kd)) (nxN μ'.1 a b mo w kd st pr, μ'.2) := fun μ' kd st pr h => k μ' kd st pr (by unfold chS; rw [hq]; exact h)
  have n999 : ¬ ((-999 : Int64).toInt ≤ (1000 : Int32).toInt64.toInt ∧ (1000 : Int32).toInt64.toInt ≤ (999 : Int64).toInt) := by decide
  have o15 : ∀ μ3 : Mm, offM μ μ3 → μ3.1 86 15 = 1 ∧ μ3.1 86 16 = nI a ∧ μ3.1 86 18 = nI mo ∧ μ3.1 86 19 = nI w := fun μ3 o3 => by
    rw [o3.1 86 15 (by omega), o3.1 86 16 (by omega), o3.1 86 18 (by omega), o3.1 86 19 (by omega)]
    exact ⟨h15, h16, h18, h19⟩
  by_cases c2 : q.2 = 0
  · refine wp_aload_n (pc := 49) dX12_machineWord_49 (by first | rfl | assumption | (repeat first | assumption | rfl | refine aG_n ?_ rfl rfl)) ?_
    refine wp_iload_n (pc := 50) dX12_machineWord_50 (by first | rfl | assumption | (repeat first | assumption | rfl | refine aG_n ?_ rfl rfl)) ?_
    refine wp_cV (pc := 51) dX12_machineWord_51 lk_12_288 rfl (by decide) rfl (by first | rfl | assumption | exact sh_house (by omega) | exact sh_wish (by omega) | exact sh_wor (by omega) | exact sh_bar (by omega) | exact sh_term (by omega) | exact sh_sheet (by omega) | exact sh_items (by omega) | exact sh_sums (by omega)) rfl rfl ?_
    refine c_X12_findChoices (a := a) (b := b) hh hW h16 h17 (fun μ3 o3 d3 => aK_v ?_)
    rw [hq] at d3
    obtain ⟨p15, p16, p18, p19⟩ := o15 μ3 o3
    refine wp_sipush (pc := 54) (v := 1000) dX12_machineWord_54 (by decide) ?_
    refine wp_istore (pc := 57) dX12_machineWord_57 (by decide) ?_
    refine wp_iconst (pc := 59) (v := 0) dX12_machineWord_59 (by decide) ?_
    refine wp_istore (pc := 60) dX12_machineWord_60 (by decide) ?_
    refine wp_aload_n (pc := 62) dX12_machineWord_62 (by first | rfl | assumption | (repeat first | assumption | rfl | refine aG_n ?_ rfl rfl)) ?_
    refine wp_getI (pc := 63) dX12_machineWord_63 fl_12_278 (by first | rfl | assumption | exact sh_house (by omega) | exact sh_wish (by omega) | exact sh_wor (by omega) | exact sh_bar (by omega) | exact sh_term (by omega) | exact sh_sheet (by omega) | exact sh_items (by omega) | exact sh_sums (by omega)) rfl ?_
    refine wp_if_le (pc := 66) (tgt := 113) dX12_machineWord_66 rfl (fun _ => ?_) (fun q => absurd (by rw [d3.1, c2]; decide) q)
    refine wp_iload (pc := 113) dX12_machineWord_113 (by first | rfl | assumption | (repeat first | assumption | rfl | refine aG_n ?_ rfl rfl)) ?_
    refine wp_i2l (pc := 115) dX12_machineWord_115 ?_
    refine wp_ldc2 (pc := 116) dX12_machineWord_116 cl_12_218 ?_
    refine wp_ldc2 (pc := 119) dX12_machineWord_119 cl_12_216 ?_
    refine wp_cS (pc := 122) dX12_machineWord_122 lk_12_133 rfl rfl rfl (c_X12_in (fun q => absurd q n999) (fun _ => aK_i ?_))
    refine wp_if_ne (pc := 125) (tgt := 137) dX12_machineWord_125 rfl (fun q => absurd q (by decide)) (fun _ => ?_)
    refine wp_aload_n (pc := 128) dX12_machineWord_128 (by first | rfl | assumption | (repeat first | assumption | rfl | refine aG_n ?_ rfl rfl)) ?_
    refine wp_iconst (pc := 129) (v := 4) dX12_machineWord_129 (by decide) ?_
    refine wp_iconst (pc := 130) (v := 0) dX12_machineWord_130 (by decide) ?_
    refine wp_iconst (pc := 131) (v := 0) dX12_machineWord_131 (by decide) ?_
    refine wp_cV (pc := 132) dX12_machineWord_132 lk_12_262 rfl (by decide) rfl (by first | rfl | assumption | exact sh_house (by omega) | exact sh_wish (by omega) | exact sh_wor (by omega) | exact sh_bar (by omega) | exact sh_term (by omega) | exact sh_sheet (by omega) | exact sh_items (by omega) | exact sh_sums (by omega)) rfl rfl (c_X12_say p19 p15 p18 hw hm (aK_v ?_))
    refine wp_iconst (pc := 135) (v := 4) dX12_machineWord_135 (by decide) ?_
    refine wp_ireturn (pc := 136) dX12_machineWord_136 rfl (by first | rfl | decide | assumption) ?_
    exact kS μ3 4 0 0 (Or.inr (Or.inl ⟨hY, Or.inl c2, rfl, rfl, rfl⟩)) o3
  · have hm2 : w / 2 % q.2 < q.2 := Nat.mod_lt _ (by omega)
    have er : nI (w / 2) - nI (w / 2) / nI q.2 * nI q.2 = nI (w / 2 % q.2) := pk_rem (by omega) (by omega) (by omega)
    have cr : (nI (w / 2 % q.2)).toNatClampNeg = w / 2 % q.2 := nI_clamp (by omega)
    have hs64 := rp2 _ hm2
    -- the price, on any memory behind the choices
    have hmore : ∀ μ3 : Mm, offM μ μ3 → th μ3.1 (two a b (w % 2)) = th μ.1 (two a b (w % 2)) ∧ μ3.1 (57 + 4 * two a b (w % 2)) = μ.1 (57 + 4 * two a b (w % 2)) := fun μ3 o3 => by
      have hr : ∀ c, ¬ (c = 103 ∨ c = 104 ∨ c = 86) → μ3.1 c = μ.1 c := fun c hc => funext fun j => o3.1 c j (by omega)
      exact ⟨by unfold th; rw [hr 87 (by omega)], hr _ (by omega)⟩
    have tail : ∀ (μ3 : Mm) (v : Int32), offM μ μ3 → v = pfM μ.1 (two a b (w % 2)) (w % 2) (lvM μ.1 a b w) (q.1 (w / 2 % q.2)) → ∀ L : aL, aL_get L 0 = some (.ref 86) → aL_get L 5 = some (.int v) → aL_get L 6 = some (.int (nI (q.1 (w / 2 % q.2)))) → WP X mX12_machineWord 113 L [] μ3 Q := by
      intro μ3 v o3 hv L g0 g5 g6
      obtain ⟨p15, p16, p18, p19⟩ := o15 μ3 o3
      by_cases c3 : inR v (-999) 999
      · refine wp_iload (pc := 113) dX12_machineWord_113 (by first | rfl | assumption | (repeat first | assumption | rfl | refine aG_n ?_ rfl rfl)) ?_
        refine wp_i2l (pc := 115) dX12_machineWord_115 ?_
        refine wp_ldc2 (pc := 116) dX12_machineWord_116 cl_12_218 ?_
        refine wp_ldc2 (pc := 119) dX12_machineWord_119 cl_12_216 ?_
        refine wp_cS (pc := 122) dX12_machineWord_122 lk_12_133 rfl rfl rfl (c_X12_in (fun _ => aK_i ?_) (fun q => absurd (by rw [w_int]; exact c3) q))
        refine wp_if_ne (pc := 125) (tgt := 137) dX12_machineWord_125 rfl (fun _ => ?_) (fun q => absurd q (by decide))
        refine wp_aload_n (pc := 137) dX12_machineWord_137 (by first | rfl | assumption | (repeat first | assumption | rfl | refine aG_n ?_ rfl rfl)) ?_
        refine wp_iload (pc := 138) dX12_machineWord_138 (by first | rfl | assumption | (repeat first | assumption | rfl | refine aG_n ?_ rfl rfl)) ?_
        refine wp_iload (pc := 140) dX12_machineWord_140 (by first | rfl | assumption | (repeat first | assumption | rfl | refine aG_n ?_ rfl rfl)) ?_
        refine wp_cV (pc := 142) dX12_machineWord_142 lk_12_269 rfl (by decide) rfl (by first | rfl | assumption | exact sh_house (by omega) | exact sh_wish (by omega) | exact sh_wor (by omega) | exact sh_bar (by omega) | exact sh_term (by omega) | exact sh_sheet (by omega) | exact sh_items (by omega) | exact sh_sums (by omega)) rfl rfl ?_
        refine c_X12_sayOffer p15 p18 p19 hw hm (fun kd ho => aK_i ?_)
        refine wp_ireturn (pc := 145) dX12_machineWord_145 rfl (by first | rfl | decide | assumption) ?_
        skip
        have ho' : ((0 < w ∧ isOf μ.1 (w - 1)) ∧ kd = 2) ∨ (¬ (0 < w ∧ isOf μ.1 (w - 1)) ∧ kd = 1) := by
          have e : isOf μ3.1 (w - 1) ↔ isOf μ.1 (w - 1) := by unfold isOf; rw [o3.1 100 _ (by omega)]
          rw [e] at ho; exact ho
        have k3 : ¬ kd = 3 := by
          rcases ho' with ⟨-, rfl⟩ | ⟨-, rfl⟩ <;> decide
        have := kS μ3 kd _ _ (Or.inr (Or.inr ⟨hY, c2, by rw [← hv]; exact c3, ho', rfl, rfl⟩)) o3
        unfold nxN at this
        rw [if_neg k3, ← hv] at this
        exact this
      · refine wp_iload (pc := 113) dX12_machineWord_113 (by first | rfl | assumption | (repeat first | assumption | rfl | refine aG_n ?_ rfl rfl)) ?_
        refine wp_i2l (pc := 115) dX12_machineWord_115 ?_
        refine wp_ldc2 (pc := 116) dX12_machineWord_116 cl_12_218 ?_
        refine wp_ldc2 (pc := 119) dX12_machineWord_119 cl_12_216 ?_
        refine wp_cS (pc := 122) dX12_machineWord_122 lk_12_133 rfl rfl rfl (c_X12_in (fun q => absurd q (by rw [w_int]; exact c3)) (fun _ => aK_i ?_))
        refine wp_if_ne (pc := 125) (tgt := 137) dX12_machineWord_125 rfl (fun q => absurd q (by decide)) (fun _ => ?_)
        refine wp_aload_n (pc := 128) dX12_machineWord_128 (by first | rfl | assumption | (repeat first | assumption | rfl | refine aG_n ?_ rfl rfl)) ?_
        refine wp_iconst (pc := 129) (v := 4) dX12_machineWord_129 (by decide) ?_
        refine wp_iconst (pc := 130) (v := 0) dX12_machineWord_130 (by decide) ?_
        refine wp_iconst (pc := 131) (v := 0) dX12_machineWord_131 (by decide) ?_
        refine wp_cV (pc := 132) dX12_machineWord_132 lk_12_262 rfl (by decide) rfl (by first | rfl | assumption | exact sh_house (by omega) | exact sh_wish (by omega) | exact sh_wor (by omega) | exact sh_bar (by omega) | exact sh_term (by omega) | exact sh_sheet (by omega) | exact sh_items (by omega) | exact sh_sums (by omega)) rfl rfl (c_X12_say p19 p15 p18 hw hm (aK_v ?_))
        refine wp_iconst (pc := 135) (v := 4) dX12_machineWord_135 (by decide) ?_
        refine wp_ireturn (pc := 136) dX12_machineWord_136 rfl (by first | rfl | decide | assumption) ?_
        exact kS μ3 4 0 0 (Or.inr (Or.inl ⟨hY, Or.inr ⟨c2, by rw [← hv]; exact c3⟩, rfl, rfl, rfl⟩)) o3
    obtain hd | hd : w % 2 = 0 ∨ w % 2 = 1 := by omega
    · have eha : two a b (w % 2) = a := by rw [hd]; rfl
      refine wp_aload_n (pc := 49) dX12_machineWord_49 (by first | rfl | assumption | (repeat first | assumption | rfl | refine aG_n ?_ rfl rfl)) ?_
      refine wp_iload_n (pc := 50) dX12_machineWord_50 (by first | rfl | assumption | (repeat first | assumption | rfl | refine aG_n ?_ rfl rfl)) ?_
      refine wp_cV (pc := 51) dX12_machineWord_51 lk_12_288 rfl (by decide) rfl (by first | rfl | assumption | exact sh_house (by omega) | exact sh_wish (by omega) | exact sh_wor (by omega) | exact sh_bar (by omega) | exact sh_term (by omega) | exact sh_sheet (by omega) | exact sh_items (by omega) | exact sh_sums (by omega)) rfl rfl ?_
      refine c_X12_findChoices (a := a) (b := b) hh hW h16 h17 (fun μ3 o3 d3 => aK_v ?_)
      rw [hq] at d3
      obtain ⟨p15, p16, p18, p19⟩ := o15 μ3 o3
      obtain ⟨x1, x2⟩ := hmore μ3 o3
      refine wp_sipush (pc := 54) (v := 1000) dX12_machineWord_54 (by decide) ?_
      refine wp_istore (pc := 57) dX12_machineWord_57 (by decide) ?_
      refine wp_iconst (pc := 59) (v := 0) dX12_machineWord_59 (by decide) ?_
      refine wp_istore (pc := 60) dX12_machineWord_60 (by decide) ?_
      refine wp_aload_n (pc := 62) dX12_machineWord_62 (by first | rfl | assumption | (repeat first | assumption | rfl | refine aG_n ?_ rfl rfl)) ?_
      refine wp_getI (pc := 63) dX12_machineWord_63 fl_12_278 (by first | rfl | assumption | exact sh_house (by omega) | exact sh_wish (by omega) | exact sh_wor (by omega) | exact sh_bar (by omega) | exact sh_term (by omega) | exact sh_sheet (by omega) | exact sh_items (by omega) | exact sh_sums (by omega)) rfl ?_
      refine wp_if_le (pc := 66) (tgt := 113) dX12_machineWord_66 rfl (fun q => absurd q (by rw [d3.1]; exact nI_nle (by omega) (by omega))) (fun _ => ?_)
      refine wp_aload_n (pc := 69) dX12_machineWord_69 (by first | rfl | assumption | (repeat first | assumption | rfl | refine aG_n ?_ rfl rfl)) ?_
      refine wp_getR (pc := 70) dX12_machineWord_70 fl_12_59 (by first | rfl | assumption | exact sh_house (by omega) | exact sh_wish (by omega) | exact sh_wor (by omega) | exact sh_bar (by omega) | exact sh_term (by omega) | exact sh_sheet (by omega) | exact sh_items (by omega) | exact sh_sums (by omega)) rfl ?_
      refine wp_iload_n (pc := 73) dX12_machineWord_73 (by first | rfl | assumption | (repeat first | assumption | rfl | refine aG_n ?_ rfl rfl)) ?_
      refine wp_aload_n (pc := 74) dX12_machineWord_74 (by first | rfl | assumption | (repeat first | assumption | rfl | refine aG_n ?_ rfl rfl)) ?_
      refine wp_getI (pc := 75) dX12_machineWord_75 fl_12_278 (by first | rfl | assumption | exact sh_house (by omega) | exact sh_wish (by omega) | exact sh_wor (by omega) | exact sh_bar (by omega) | exact sh_term (by omega) | exact sh_sheet (by omega) | exact sh_items (by omega) | exact sh_sums (by omega)) rfl ?_
      refine wp_irem (pc := 78) dX12_machineWord_78 (by rw [d3.1]; exact nI_ne0 (by omega) (by omega)) ?_
      refine wp_iald (pc := 79) dX12_machineWord_79 (by first | rfl | assumption | exact sh_house (by omega) | exact sh_wish (by omega) | exact sh_wor (by omega) | exact sh_bar (by omega) | exact sh_term (by omega) | exact sh_sheet (by omega) | exact sh_items (by omega) | exact sh_sums (by omega)) (by rw [d3.1, er]; exact vp_in_nI (by omega) (by decide)) ?_
      refine wp_istore (pc := 80) dX12_machineWord_80 (by decide) ?_
      refine wp_iload_n (pc := 82) dX12_machineWord_82 (by first | rfl | assumption | (repeat first | assumption | rfl | refine aG_n ?_ rfl rfl)) ?_
      refine wp_aload_n (pc := 83) dX12_machineWord_83 (by first | rfl | assumption | (repeat first | assumption | rfl | refine aG_n ?_ rfl rfl)) ?_
      refine wp_getI (pc := 84) dX12_machineWord_84 fl_12_235 (by first | rfl | assumption | exact sh_house (by omega) | exact sh_wish (by omega) | exact sh_wor (by omega) | exact sh_bar (by omega) | exact sh_term (by omega) | exact sh_sheet (by omega) | exact sh_items (by omega) | exact sh_sums (by omega)) rfl ?_
      refine wp_icmp_ne (pc := 87) (tgt := 102) dX12_machineWord_87 rfl (fun q => absurd (by rw [p16, eha]) q) (fun _ => ?_)
      refine wp_aload_n (pc := 90) dX12_machineWord_90 (by first | rfl | assumption | (repeat first | assumption | rfl | refine aG_n ?_ rfl rfl)) ?_
      refine wp_iload_n (pc := 91) dX12_machineWord_91 (by first | rfl | assumption | (repeat first | assumption | rfl | refine aG_n ?_ rfl rfl)) ?_
      refine wp_iload (pc := 92) dX12_machineWord_92 (by first | rfl | assumption | (repeat first | assumption | rfl | refine aG_n ?_ rfl rfl)) ?_
      refine wp_cV (pc := 94) dX12_machineWord_94 lk_12_224 rfl (by decide) rfl (by first | rfl | assumption | exact sh_house (by omega) | exact sh_wish (by omega) | exact sh_wor (by omega) | exact sh_bar (by omega) | exact sh_term (by omega) | exact sh_sheet (by omega) | exact sh_items (by omega) | exact sh_sums (by omega)) rfl rfl ?_
      rw [d3.1, er, cr, (d3.2 _ hm2).1]
      refine m_more (o3.wish hW) hh hs64 rfl ?_
      rw [x1, x2]
      refine aK_i ?_
      refine wp_iload_n (pc := 97) dX12_machineWord_97 (by first | rfl | assumption | (repeat first | assumption | rfl | refine aG_n ?_ rfl rfl)) ?_
      refine wp_isub (pc := 98) dX12_machineWord_98 ?_
      refine wp_goto (pc := 99) (tgt := 111) dX12_machineWord_99 rfl ?_
      refine wp_istore (pc := 111) dX12_machineWord_111 (by decide) ?_
      exact tail μ3 _ o3 (by unfold pfM; rw [if_pos hd, ← hlv]) _ (by first | rfl | assumption | (repeat first | assumption | rfl | refine aG_n ?_ rfl rfl)) (by first | rfl | assumption | (repeat first | assumption | rfl | refine aG_n ?_ rfl rfl)) (by first | rfl | assumption | (repeat first | assumption | rfl | refine aG_n ?_ rfl rfl))
    · have ehb : two a b (w % 2) = b := by rw [hd]; rfl
      refine wp_aload_n (pc := 49) dX12_machineWord_49 (by first | rfl | assumption | (repeat first | assumption | rfl | refine aG_n ?_ rfl rfl)) ?_
      refine wp_iload_n (pc := 50) dX12_machineWord_50 (by first | rfl | assumption | (repeat first | assumption | rfl | refine aG_n ?_ rfl rfl)) ?_
      refine wp_cV (pc := 51) dX12_machineWord_51 lk_12_288 rfl (by decide) rfl (by first | rfl | assumption | exact sh_house (by omega) | exact sh_wish (by omega) | exact sh_wor (by omega) | exact sh_bar (by omega) | exact sh_term (by omega) | exact sh_sheet (by omega) | exact sh_items (by omega) | exact sh_sums (by omega)) rfl rfl ?_
      refine c_X12_findChoices (a := a) (b := b) hh hW h16 h17 (fun μ3 o3 d3 => aK_v ?_)
      rw [hq] at d3
      obtain ⟨p15, p16, p18, p19⟩ := o15 μ3 o3
      obtain ⟨x1, x2⟩ := hmore μ3 o3
      refine wp_sipush (pc := 54) (v := 1000) dX12_machineWord_54 (by decide) ?_
      refine wp_istore (pc := 57) dX12_machineWord_57 (by decide) ?_
      refine wp_iconst (pc := 59) (v := 0) dX12_machineWord_59 (by decide) ?_
      refine wp_istore (pc := 60) dX12_machineWord_60 (by decide) ?_
      refine wp_aload_n (pc := 62) dX12_machineWord_62 (by first | rfl | assumption | (repeat first | assumption | rfl | refine aG_n ?_ rfl rfl)) ?_
      refine wp_getI (pc := 63) dX12_machineWord_63 fl_12_278 (by first | rfl | assumption | exact sh_house (by omega) | exact sh_wish (by omega) | exact sh_wor (by omega) | exact sh_bar (by omega) | exact sh_term (by omega) | exact sh_sheet (by omega) | exact sh_items (by omega) | exact sh_sums (by omega)) rfl ?_
      refine wp_if_le (pc := 66) (tgt := 113) dX12_machineWord_66 rfl (fun q => absurd q (by rw [d3.1]; exact nI_nle (by omega) (by omega))) (fun _ => ?_)
      refine wp_aload_n (pc := 69) dX12_machineWord_69 (by first | rfl | assumption | (repeat first | assumption | rfl | refine aG_n ?_ rfl rfl)) ?_
      refine wp_getR (pc := 70) dX12_machineWord_70 fl_12_59 (by first | rfl | assumption | exact sh_house (by omega) | exact sh_wish (by omega) | exact sh_wor (by omega) | exact sh_bar (by omega) | exact sh_term (by omega) | exact sh_sheet (by omega) | exact sh_items (by omega) | exact sh_sums (by omega)) rfl ?_
      refine wp_iload_n (pc := 73) dX12_machineWord_73 (by first | rfl | assumption | (repeat first | assumption | rfl | refine aG_n ?_ rfl rfl)) ?_
      refine wp_aload_n (pc := 74) dX12_machineWord_74 (by first | rfl | assumption | (repeat first | assumption | rfl | refine aG_n ?_ rfl rfl)) ?_
      refine wp_getI (pc := 75) dX12_machineWord_75 fl_12_278 (by first | rfl | assumption | exact sh_house (by omega) | exact sh_wish (by omega) | exact sh_wor (by omega) | exact sh_bar (by omega) | exact sh_term (by omega) | exact sh_sheet (by omega) | exact sh_items (by omega) | exact sh_sums (by omega)) rfl ?_
      refine wp_irem (pc := 78) dX12_machineWord_78 (by rw [d3.1]; exact nI_ne0 (by omega) (by omega)) ?_
      refine wp_iald (pc := 79) dX12_machineWord_79 (by first | rfl | assumption | exact sh_house (by omega) | exact sh_wish (by omega) | exact sh_wor (by omega) | exact sh_bar (by omega) | exact sh_term (by omega) | exact sh_sheet (by omega) | exact sh_items (by omega) | exact sh_sums (by omega)) (by rw [d3.1, er]; exact vp_in_nI (by omega) (by decide)) ?_
      refine wp_istore (pc := 80) dX12_machineWord_80 (by decide) ?_
      refine wp_iload_n (pc := 82) dX12_machineWord_82 (by first | rfl | assumption | (repeat first | assumption | rfl | refine aG_n ?_ rfl rfl)) ?_
      refine wp_aload_n (pc := 83) dX12_machineWord_83 (by first | rfl | assumption | (repeat first | assumption | rfl | refine aG_n ?_ rfl rfl)) ?_
      refine wp_getI (pc := 84) dX12_machineWord_84 fl_12_235 (by first | rfl | assumption | exact sh_house (by omega) | exact sh_wish (by omega) | exact sh_wor (by omega) | exact sh_bar (by omega) | exact sh_term (by omega) | exact sh_sheet (by omega) | exact sh_items (by omega) | exact sh_sums (by omega)) rfl ?_
      refine wp_icmp_ne (pc := 87) (tgt := 102) dX12_machineWord_87 rfl (fun _ => ?_) (fun q => absurd q (by rw [p16, ehb, nI_eq (by omega) (by omega)]; exact fun z => hab z.symm))
      refine wp_iload_n (pc := 102) dX12_machineWord_102 (by first | rfl | assumption | (repeat first | assumption | rfl | refine aG_n ?_ rfl rfl)) ?_
      refine wp_aload_n (pc := 103) dX12_machineWord_103 (by first | rfl | assumption | (repeat first | assumption | rfl | refine aG_n ?_ rfl rfl)) ?_
      refine wp_iload_n (pc := 104) dX12_machineWord_104 (by first | rfl | assumption | (repeat first | assumption | rfl | refine aG_n ?_ rfl rfl)) ?_
      refine wp_iload (pc := 105) dX12_machineWord_105 (by first | rfl | assumption | (repeat first | assumption | rfl | refine aG_n ?_ rfl rfl)) ?_
      refine wp_cV (pc := 107) dX12_machineWord_107 lk_12_224 rfl (by decide) rfl (by first | rfl | assumption | exact sh_house (by omega) | exact sh_wish (by omega) | exact sh_wor (by omega) | exact sh_bar (by omega) | exact sh_term (by omega) | exact sh_sheet (by omega) | exact sh_items (by omega) | exact sh_sums (by omega)) rfl rfl ?_
      rw [d3.1, er, cr, (d3.2 _ hm2).1]
      refine m_more (o3.wish hW) hh hs64 rfl ?_
      rw [x1, x2]
      refine aK_i ?_
      refine wp_isub (pc := 110) dX12_machineWord_110 ?_
      refine wp_istore (pc := 111) dX12_machineWord_111 (by decide) ?_
      exact tail μ3 _ o3 (by unfold pfM; rw [if_neg (by omega), ← hlv]) _ (by first | rfl | assumption | (repeat first | assumption | rfl | refine aG_n ?_ rfl rfl)) (by first | rfl | assumption | (repeat first | assumption | rfl | refine aG_n ?_ rfl rfl)) (by first | rfl | assumption | (repeat first | assumption | rfl | refine aG_n ?_ rfl rfl))
theorem m_speak (hW : I_wish μ.1) (hlev : ∀ i, i < 4 → inR (μ.1 89 i) 0 999) (ha : a < 4) (hb : b < 4) (hab : a ≠ b) (h15 : μ.1 86 15 = 1) (h16 : μ.1 86 16 = nI a) (h17 : μ.1 86 17 = nI b) (h18 : μ.1 86 18 = nI mo) (h19 : μ.1 86 19 = nI w) (hw : w < mo) (hm : mo ≤ 20) (hof : ∀ q, q < w → isOf μ.1 q → μ.1 101 q = nI (wu μ.1 q) ∧ wu μ.1 q < 64) (k : ∀ μ' kd st pr, chS μ.1 a b w kd st pr → offM μ μ' → Q (some (.int kd)) (nxN μ'.1 a b mo w kd st pr, μ'.2)) : WP X mX12_machineWord 0 (lv_args 0 [.ref 86]) [] μ Q := by
  have hh : two a b (w % 2) < 4 := two_lt ha hb
  have eh := two_if (w := w) h16 h17
  have ed : nI w / 2 = nI (w / 2) := pk_div (d := 2) (by omega) (by decide) (by decide)
  by_cases cy : yP μ.1 a b w
  · have hpos : -10000 < yG μ.1 a b w := by
      have h1 := (hlev _ hh).1
      have h2 := cy.2.2
      rw [i_le] at h2
      rw [i_lt]
      have : (-10000 : Int32).toInt = -10000 := by decide
      omega
    by_cases cl : lvM μ.1 a b w ≤ yG μ.1 a b w
    · obtain ⟨⟨c0, c1⟩, -, -⟩ := id cy
      obtain ⟨m, rfl⟩ : ∃ m, w = m + 1 := ⟨w - 1, by omega⟩
      simp only [Nat.add_sub_cancel] at c1
      obtain ⟨eu, hu6⟩ := hof m (by omega) c1
      refine wp_aload_n (pc := 0) dX12_machineWord_0 (by first | rfl | assumption | (repeat first | assumption | rfl | refine aG_n ?_ rfl rfl)) ?_
      refine wp_aload_n (pc := 1) dX12_machineWord_1 (by first | rfl | assumption | (repeat first | assumption | rfl | refine aG_n ?_ rfl rfl)) ?_
      refine wp_getI (pc := 2) dX12_machineWord_2 fl_12_244 (by first | rfl | assumption | exact sh_house (by omega) | exact sh_wish (by omega) | exact sh_wor (by omega) | exact sh_bar (by omega) | exact sh_term (by omega) | exact sh_sheet (by omega) | exact sh_items (by omega) | exact sh_sums (by omega)) rfl ?_
      refine wp_cV (pc := 5) dX12_machineWord_5 lk_12_259 rfl (by decide) rfl (by first | rfl | assumption | exact sh_house (by omega) | exact sh_wish (by omega) | exact sh_wor (by omega) | exact sh_bar (by omega) | exact sh_term (by omega) | exact sh_sheet (by omega) | exact sh_items (by omega) | exact sh_sums (by omega)) rfl rfl ?_
      rw [h19]
      refine c_X12_whose (n := m + 1) (by omega) ?_
      rw [eh]
      refine aK_i ?_
      refine wp_istore_n (pc := 8) dX12_machineWord_8 (by decide) ?_
      refine wp_aload_n (pc := 9) dX12_machineWord_9 (by first | rfl | assumption | (repeat first | assumption | rfl | refine aG_n ?_ rfl rfl)) ?_
      refine wp_getI (pc := 10) dX12_machineWord_10 fl_12_244 (by first | rfl | assumption | exact sh_house (by omega) | exact sh_wish (by omega) | exact sh_wor (by omega) | exact sh_bar (by omega) | exact sh_term (by omega) | exact sh_sheet (by omega) | exact sh_items (by omega) | exact sh_sums (by omega)) rfl ?_
      refine wp_iconst (pc := 13) (v := 2) dX12_machineWord_13 (by decide) ?_
      refine wp_idiv (pc := 14) dX12_machineWord_14 (by decide) ?_
      refine wp_istore_n (pc := 15) dX12_machineWord_15 (by decide) ?_
      refine wp_aload_n (pc := 16) dX12_machineWord_16 (by first | rfl | assumption | (repeat first | assumption | rfl | refine aG_n ?_ rfl rfl)) ?_
      refine wp_iload_n (pc := 17) dX12_machineWord_17 (by first | rfl | assumption | (repeat first | assumption | rfl | refine aG_n ?_ rfl rfl)) ?_
      refine wp_iload_n (pc := 18) dX12_machineWord_18 (by first | rfl | assumption | (repeat first | assumption | rfl | refine aG_n ?_ rfl rfl)) ?_
      refine wp_cV (pc := 19) dX12_machineWord_19 lk_12_285 rfl (by decide) rfl (by first | rfl | assumption | exact sh_house (by omega) | exact sh_wish (by omega) | exact sh_wor (by omega) | exact sh_bar (by omega) | exact sh_term (by omega) | exact sh_sheet (by omega) | exact sh_items (by omega) | exact sh_sums (by omega)) rfl rfl ?_
      (try rw [h19])
      rw [ed]
      refine c_X12_levelOf hh (aK_i ?_)
      refine wp_istore_n (pc := 22) dX12_machineWord_22 (by decide) ?_
      refine wp_aload_n (pc := 23) dX12_machineWord_23 (by first | rfl | assumption | (repeat first | assumption | rfl | refine aG_n ?_ rfl rfl)) ?_
      refine wp_cV (pc := 24) dX12_machineWord_24 lk_12_272 rfl (by decide) rfl (by first | rfl | assumption | exact sh_house (by omega) | exact sh_wish (by omega) | exact sh_wor (by omega) | exact sh_bar (by omega) | exact sh_term (by omega) | exact sh_sheet (by omega) | exact sh_items (by omega) | exact sh_sums (by omega)) rfl rfl (c_X12_yesGain hW ha hb hab h16 h17 h19 (by omega) hof (fun _ => aK_i ?_) (fun z => absurd cy z))
      refine wp_istore (pc := 27) dX12_machineWord_27 (by decide) ?_
      refine wp_iload (pc := 29) dX12_machineWord_29 (by first | rfl | assumption | (repeat first | assumption | rfl | refine aG_n ?_ rfl rfl)) ?_
      refine wp_sipush (pc := 31) (v := -10000) dX12_machineWord_31 (by decide) ?_
      refine wp_icmp_le (pc := 34) (tgt := 49) dX12_machineWord_34 rfl (fun q => absurd q (fun z => i_nle hpos z)) (fun _ => ?_)
      refine wp_iload (pc := 37) dX12_machineWord_37 (by first | rfl | assumption | (repeat first | assumption | rfl | refine aG_n ?_ rfl rfl)) ?_
      refine wp_iload_n (pc := 39) dX12_machineWord_39 (by first | rfl | assumption | (repeat first | assumption | rfl | refine aG_n ?_ rfl rfl)) ?_
      refine wp_icmp_lt (pc := 40) (tgt := 49) dX12_machineWord_40 rfl (fun q => absurd q (fun z => i_nle z cl)) (fun _ => ?_)
      refine wp_aload_n (pc := 43) dX12_machineWord_43 (by first | rfl | assumption | (repeat first | assumption | rfl | refine aG_n ?_ rfl rfl)) ?_
      refine wp_cV (pc := 44) dX12_machineWord_44 lk_12_275 rfl (by decide) rfl (by first | rfl | assumption | exact sh_house (by omega) | exact sh_wish (by omega) | exact sh_wor (by omega) | exact sh_bar (by omega) | exact sh_term (by omega) | exact sh_sheet (by omega) | exact sh_items (by omega) | exact sh_sums (by omega)) rfl rfl (c_X12_agree (a := a) (b := b) (mo := mo) (m := m) (u := wu μ.1 m) (p := μ.1 102 m) h15 h19 h18 hw hm ha hb hab h16 h17 eu hu6 rfl (aK_v ?_))
      refine wp_iconst (pc := 47) (v := 3) dX12_machineWord_47 (by decide) ?_
      refine wp_ireturn (pc := 48) dX12_machineWord_48 rfl (by first | rfl | decide | assumption) ?_
      exact k μ 3 0 0 (Or.inl ⟨⟨cy, cl⟩, rfl, rfl, rfl⟩) ⟨fun _ _ _ => rfl, rfl⟩
    · refine wp_aload_n (pc := 0) dX12_machineWord_0 (by first | rfl | assumption | (repeat first | assumption | rfl | refine aG_n ?_ rfl rfl)) ?_
      refine wp_aload_n (pc := 1) dX12_machineWord_1 (by first | rfl | assumption | (repeat first | assumption | rfl | refine aG_n ?_ rfl rfl)) ?_
      refine wp_getI (pc := 2) dX12_machineWord_2 fl_12_244 (by first | rfl | assumption | exact sh_house (by omega) | exact sh_wish (by omega) | exact sh_wor (by omega) | exact sh_bar (by omega) | exact sh_term (by omega) | exact sh_sheet (by omega) | exact sh_items (by omega) | exact sh_sums (by omega)) rfl ?_
      refine wp_cV (pc := 5) dX12_machineWord_5 lk_12_259 rfl (by decide) rfl (by first | rfl | assumption | exact sh_house (by omega) | exact sh_wish (by omega) | exact sh_wor (by omega) | exact sh_bar (by omega) | exact sh_term (by omega) | exact sh_sheet (by omega) | exact sh_items (by omega) | exact sh_sums (by omega)) rfl rfl ?_
      rw [h19]
      refine c_X12_whose (n := w) (by omega) ?_
      rw [eh]
      refine aK_i ?_
      refine wp_istore_n (pc := 8) dX12_machineWord_8 (by decide) ?_
      refine wp_aload_n (pc := 9) dX12_machineWord_9 (by first | rfl | assumption | (repeat first | assumption | rfl | refine aG_n ?_ rfl rfl)) ?_
      refine wp_getI (pc := 10) dX12_machineWord_10 fl_12_244 (by first | rfl | assumption | exact sh_house (by omega) | exact sh_wish (by omega) | exact sh_wor (by omega) | exact sh_bar (by omega) | exact sh_term (by omega) | exact sh_sheet (by omega) | exact sh_items (by omega) | exact sh_sums (by omega)) rfl ?_
      refine wp_iconst (pc := 13) (v := 2) dX12_machineWord_13 (by decide) ?_
      refine wp_idiv (pc := 14) dX12_machineWord_14 (by decide) ?_
      refine wp_istore_n (pc := 15) dX12_machineWord_15 (by decide) ?_
      refine wp_aload_n (pc := 16) dX12_machineWord_16 (by first | rfl | assumption | (repeat first | assumption | rfl | refine aG_n ?_ rfl rfl)) ?_
      refine wp_iload_n (pc := 17) dX12_machineWord_17 (by first | rfl | assumption | (repeat first | assumption | rfl | refine aG_n ?_ rfl rfl)) ?_
      refine wp_iload_n (pc := 18) dX12_machineWord_18 (by first | rfl | assumption | (repeat first | assumption | rfl | refine aG_n ?_ rfl rfl)) ?_
      refine wp_cV (pc := 19) dX12_machineWord_19 lk_12_285 rfl (by decide) rfl (by first | rfl | assumption | exact sh_house (by omega) | exact sh_wish (by omega) | exact sh_wor (by omega) | exact sh_bar (by omega) | exact sh_term (by omega) | exact sh_sheet (by omega) | exact sh_items (by omega) | exact sh_sums (by omega)) rfl rfl ?_
      (try rw [h19])
      rw [ed]
      refine c_X12_levelOf hh (aK_i ?_)
      refine wp_istore_n (pc := 22) dX12_machineWord_22 (by decide) ?_
      refine wp_aload_n (pc := 23) dX12_machineWord_23 (by first | rfl | assumption | (repeat first | assumption | rfl | refine aG_n ?_ rfl rfl)) ?_
      refine wp_cV (pc := 24) dX12_machineWord_24 lk_12_272 rfl (by decide) rfl (by first | rfl | assumption | exact sh_house (by omega) | exact sh_wish (by omega) | exact sh_wor (by omega) | exact sh_bar (by omega) | exact sh_term (by omega) | exact sh_sheet (by omega) | exact sh_items (by omega) | exact sh_sums (by omega)) rfl rfl (c_X12_yesGain hW ha hb hab h16 h17 h19 (by omega) hof (fun _ => aK_i ?_) (fun z => absurd cy z))
      refine wp_istore (pc := 27) dX12_machineWord_27 (by decide) ?_
      refine wp_iload (pc := 29) dX12_machineWord_29 (by first | rfl | assumption | (repeat first | assumption | rfl | refine aG_n ?_ rfl rfl)) ?_
      refine wp_sipush (pc := 31) (v := -10000) dX12_machineWord_31 (by decide) ?_
      refine wp_icmp_le (pc := 34) (tgt := 49) dX12_machineWord_34 rfl (fun q => absurd q (fun z => i_nle hpos z)) (fun _ => ?_)
      refine wp_iload (pc := 37) dX12_machineWord_37 (by first | rfl | assumption | (repeat first | assumption | rfl | refine aG_n ?_ rfl rfl)) ?_
      refine wp_iload_n (pc := 39) dX12_machineWord_39 (by first | rfl | assumption | (repeat first | assumption | rfl | refine aG_n ?_ rfl rfl)) ?_
      refine wp_icmp_lt (pc := 40) (tgt := 49) dX12_machineWord_40 rfl (fun _ => ?_) (fun q => absurd (i_nle2 cl) q)
      exact l_mw49 rfl (fun z => cl z.2) hW ha hb hab h15 h16 h17 h18 h19 hw hm k _ (by first | rfl | assumption | (repeat first | assumption | rfl | refine aG_n ?_ rfl rfl)) (by first | rfl | assumption | (repeat first | assumption | rfl | refine aG_n ?_ rfl rfl)) (by first | rfl | assumption | (repeat first | assumption | rfl | refine aG_n ?_ rfl rfl)) (by first | rfl | assumption | (repeat first | assumption | rfl | refine aG_n ?_ rfl rfl))
  · refine wp_aload_n (pc := 0) dX12_machineWord_0 (by first | rfl | assumption | (repeat first | assumption | rfl | refine aG_n ?_ rfl rfl)) ?_
    refine wp_aload_n (pc := 1) dX12_machineWord_1 (by first | rfl | assumption | (repeat first | assumption | rfl | refine aG_n ?_ rfl rfl)) ?_
    refine wp_getI (pc := 2) dX12_machineWord_2 fl_12_244 (by first | rfl | assumption | exact sh_house (by omega) | exact sh_wish (by omega) | exact sh_wor (by omega) | exact sh_bar (by omega) | exact sh_term (by omega) | exact sh_sheet (by omega) | exact sh_items (by omega) | exact sh_sums (by omega)) rfl ?_
    refine wp_cV (pc := 5) dX12_machineWord_5 lk_12_259 rfl (by decide) rfl (by first | rfl | assumption | exact sh_house (by omega) | exact sh_wish (by omega) | exact sh_wor (by omega) | exact sh_bar (by omega) | exact sh_term (by omega) | exact sh_sheet (by omega) | exact sh_items (by omega) | exact sh_sums (by omega)) rfl rfl ?_
    rw [h19]
    refine c_X12_whose (n := w) (by omega) ?_
    rw [eh]
    refine aK_i ?_
    refine wp_istore_n (pc := 8) dX12_machineWord_8 (by decide) ?_
    refine wp_aload_n (pc := 9) dX12_machineWord_9 (by first | rfl | assumption | (repeat first | assumption | rfl | refine aG_n ?_ rfl rfl)) ?_
    refine wp_getI (pc := 10) dX12_machineWord_10 fl_12_244 (by first | rfl | assumption | exact sh_house (by omega) | exact sh_wish (by omega) | exact sh_wor (by omega) | exact sh_bar (by omega) | exact sh_term (by omega) | exact sh_sheet (by omega) | exact sh_items (by omega) | exact sh_sums (by omega)) rfl ?_
    refine wp_iconst (pc := 13) (v := 2) dX12_machineWord_13 (by decide) ?_
    refine wp_idiv (pc := 14) dX12_machineWord_14 (by decide) ?_
    refine wp_istore_n (pc := 15) dX12_machineWord_15 (by decide) ?_
    refine wp_aload_n (pc := 16) dX12_machineWord_16 (by first | rfl | assumption | (repeat first | assumption | rfl | refine aG_n ?_ rfl rfl)) ?_
    refine wp_iload_n (pc := 17) dX12_machineWord_17 (by first | rfl | assumption | (repeat first | assumption | rfl | refine aG_n ?_ rfl rfl)) ?_
    refine wp_iload_n (pc := 18) dX12_machineWord_18 (by first | rfl | assumption | (repeat first | assumption | rfl | refine aG_n ?_ rfl rfl)) ?_
    refine wp_cV (pc := 19) dX12_machineWord_19 lk_12_285 rfl (by decide) rfl (by first | rfl | assumption | exact sh_house (by omega) | exact sh_wish (by omega) | exact sh_wor (by omega) | exact sh_bar (by omega) | exact sh_term (by omega) | exact sh_sheet (by omega) | exact sh_items (by omega) | exact sh_sums (by omega)) rfl rfl ?_
    (try rw [h19])
    rw [ed]
    refine c_X12_levelOf hh (aK_i ?_)
    refine wp_istore_n (pc := 22) dX12_machineWord_22 (by decide) ?_
    refine wp_aload_n (pc := 23) dX12_machineWord_23 (by first | rfl | assumption | (repeat first | assumption | rfl | refine aG_n ?_ rfl rfl)) ?_
    refine wp_cV (pc := 24) dX12_machineWord_24 lk_12_272 rfl (by decide) rfl (by first | rfl | assumption | exact sh_house (by omega) | exact sh_wish (by omega) | exact sh_wor (by omega) | exact sh_bar (by omega) | exact sh_term (by omega) | exact sh_sheet (by omega) | exact sh_items (by omega) | exact sh_sums (by omega)) rfl rfl (c_X12_yesGain hW ha hb hab h16 h17 h19 (by omega) hof (fun z => absurd z cy) (fun _ => aK_i ?_))
    refine wp_istore (pc := 27) dX12_machineWord_27 (by decide) ?_
    refine wp_iload (pc := 29) dX12_machineWord_29 (by first | rfl | assumption | (repeat first | assumption | rfl | refine aG_n ?_ rfl rfl)) ?_
    refine wp_sipush (pc := 31) (v := -10000) dX12_machineWord_31 (by decide) ?_
    refine wp_icmp_le (pc := 34) (tgt := 49) dX12_machineWord_34 rfl (fun _ => ?_) (fun q => absurd (by decide) q)
    exact l_mw49 rfl (fun z => cy z.1) hW ha hb hab h15 h16 h17 h18 h19 hw hm k _ (by first | rfl | assumption | (repeat first | assumption | rfl | refine aG_n ?_ rfl rfl)) (by first | rfl | assumption | (repeat first | assumption | rfl | refine aG_n ?_ rfl rfl)) (by first | rfl | assumption | (repeat first | assumption | rfl | refine aG_n ?_ rfl rfl)) (by first | rfl | assumption | (repeat first | assumption | rfl | refine aG_n ?_ rfl rfl))
end MSPEAK
/-! the model's next memory, by what counts -/
theorem up2_s {M M' : MM} {a f c j : Nat} {v : Int32} (h : M' c j = M c j) : up2 M' a f v c j = up2 M a f v c j := by
  unfold up2; split
  · rfl
  · exact h
theorem nxN_lo {N : MM} {a b mo w c : Nat} {kd st pr : Int32} (hc : c < 86) : nxN N a b mo w kd st pr c = N c := by
  unfold nxN
  split
  · unfold yesM sayM
    simp (disch := omega) only [up2_ne, sw_ne]
  · unfold sayM
    simp (disch := omega) only [up2_ne]
theorem nxN_s {N N' : MM} {a b mo w : Nat} {kd st pr : Int32} (h : ∀ c j, 86 ≤ c → ¬ scr c j → N' c j = N c j) : ∀ c j, 86 ≤ c → ¬ scr c j → nxN N' a b mo w kd st pr c j = nxN N a b mo w kd st pr c j := by
  intro c j hc hs
  have hr : ∀ x, (87 ≤ x ∧ x ≤ 96) ∨ (100 ≤ x ∧ x ≤ 102) → N' x = N x := fun x hx => funext fun y => h x y (by omega) (by unfold scr; omega)
  have e := h c j hc hs
  unfold nxN
  split
  · unfold yesM sayM wu
    rw [hr 101 (by omega), hr 102 (by omega), hr 88 (by omega)]
    refine up2_s (up2_s (up2_s (up2_s (up2_s (up2_s (up2_s ?_))))))
    unfold sw87
    rw [hr 87 (by omega)]
    split
    · rfl
    · exact e
  · unfold sayM
    exact up2_s (up2_s (up2_s (up2_s (up2_s e))))
theorem nxN_w {N : MM} {a b mo w : Nat} {kd st pr : Int32} (hk : kd = 3 → 0 < w) : nxN N a b mo w kd st pr 86 19 = nI (w + 1) := by
  unfold nxN
  split
  · have := hk (by assumption)
    unfold yesM sayM
    rw [up2_p (by omega), up2_at, show w - 1 + 1 + 1 = w + 1 by omega]
  · unfold sayM
    rw [up2_p (by omega), up2_at]

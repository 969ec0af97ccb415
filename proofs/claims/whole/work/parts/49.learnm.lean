section WSAY2
variable {X : aX} {μ : Mm} {Q : Option Value → Mm → Prop} {a b w ta tb d c pl : Nat} {R : Nat → Nat → Nat}
theorem l_ws139 {lv sg gn pr : Int32} {u : Nat} (hW : I_wish μ.1) (hL : LK μ.1 R a b w ta tb) (hd : d < 2) (hpl : pl < w) (hA : AS μ.1 (ta ||| tb) c) (hlv : lv = lvG μ.1 (two a b d) (pl / 2)) (hsg : (d = 0 ∧ sg = -1) ∨ (d = 1 ∧ sg = 1)) (cO : 0 < pl ∧ isOf μ.1 (pl - 1)) (hu : wu μ.1 (pl - 1) = u) (hu6 : u < 64) (hpr : μ.1 102 (pl - 1) = pr) (hgn : gn = gnG (ta ||| tb) c (two ta tb d) d u pr) (kt : GW μ.1 a b ta tb d c pl → ∀ μ', offM μ μ' → Q (some (.int 1)) μ') (kf : ¬ GW μ.1 a b ta tb d c pl → ∀ μ', offM μ μ' → Q (some (.int 0)) μ') (L : aL) (g0 : aL_get L 0 = some (.ref 86)) (g1 : aL_get L 1 = some (.int (nI (two a b d)))) (g2 : aL_get L 2 = some (.int (nI pl))) (g3 : aL_get L 3 = some (.int (nI (two ta tb d)))) (g4 : aL_get L 4 = some (.int (nI (two tb ta d)))) (g5 : aL_get L 5 = some (.int (nI (two b a d)))) (g6 : aL_get L 6 = some (.int lv)) (g7 : aL_get L 7 = some (.int sg)) (g8 : aL_get L 8 = some (.int (nI u))) (g9 : aL_get L 9 = some (.int pr)) (g10 : aL_get L 10 = some (.int gn)) : WP X mX12_wouldSay 139 L [] μ Q := by
  obtain ⟨⟨ha, hb, hab⟩, -, ⟨hw, l31, l32⟩, ⟨hta, htb⟩, -⟩ := id hL
  have hto : two tb ta d < 64 := by unfold two; split <;> assumption
  have hh : two a b d < 4 := two_lt ha hb
  have ho4 : two b a d < 4 := two_lt hb ha
  have cpl : (nI pl).toNatClampNeg = pl := nI_clamp (by omega)
  have ch : (nI (two a b d)).toNatClampNeg = two a b d := nI_clamp (by omega)
  have rf : offM μ μ := ⟨fun _ _ _ => rfl, rfl⟩
  have hYi : gY μ.1 a b ta tb d (ta ||| tb) c pl (lvG μ.1 (two a b d) (pl / 2)) ↔ ((μ.1 (58 + 4 * two b a d) (two tb ta d ^^^ u) = 0 ∧ inR (μ.1 86 25 - pr) 0 9999 ∧ inR (μ.1 86 26 + pr) 0 9999) ∧ lv ≤ gn) := by
    unfold gY
    rw [hu, hpr, ← hlv, ← hgn]
    exact ⟨fun z => z.2, fun z => ⟨cO, z⟩⟩
  by_cases cB : μ.1 (58 + 4 * two b a d) (two tb ta d ^^^ u) = 0
  · by_cases c1 : inR (μ.1 86 25 - pr) 0 9999
    · by_cases c2 : inR (μ.1 86 26 + pr) 0 9999
      · by_cases cl : lv ≤ gn
        · have hG := GW_Y (c := c) hL hpl (hYi.mpr ⟨⟨cB, c1, c2⟩, cl⟩)
          have hmn : μ.1 89 (two a b d) ≤ gn := i_tr (by rw [hlv]; exact lvV_ge _ _ _ _) cl

          by_cases o3 : μ.1 100 pl = 3
          · refine wp_aload_n (pc := 139) dX12_wouldSay_139 (by first | rfl | assumption | (repeat first | assumption | rfl | refine aG_n ?_ rfl rfl)) ?_
            refine wp_iload (pc := 140) dX12_wouldSay_140 (by first | rfl | assumption | (repeat first | assumption | rfl | refine aG_n ?_ rfl rfl)) ?_
            refine wp_iload (pc := 142) dX12_wouldSay_142 (by first | rfl | assumption | (repeat first | assumption | rfl | refine aG_n ?_ rfl rfl)) ?_
            refine wp_iload (pc := 144) dX12_wouldSay_144 (by first | rfl | assumption | (repeat first | assumption | rfl | refine aG_n ?_ rfl rfl)) ?_
            refine wp_ixor (pc := 146) dX12_wouldSay_146 ?_
            refine wp_cV (pc := 147) dX12_wouldSay_147 lk_12_204 rfl (by decide) rfl (by first | rfl | assumption | exact sh_house (by omega) | exact sh_wish (by omega) | exact sh_wor (by omega) | exact sh_bar (by omega) | exact sh_term (by omega) | exact sh_sheet (by omega) | exact sh_items (by omega) | exact sh_sums (by omega)) rfl rfl ?_
            refine m_barred hW ho4 (x64 hto hu6) (xor6 hto hu6) (fun q => absurd cB q) (fun _ => aK_i ?_)
            refine wp_if_ne (pc := 150) (tgt := 193) dX12_wouldSay_150 rfl (fun q => absurd rfl q) (fun _ => ?_)
            refine wp_aload_n (pc := 153) dX12_wouldSay_153 (by first | rfl | assumption | (repeat first | assumption | rfl | refine aG_n ?_ rfl rfl)) ?_
            refine wp_getI (pc := 154) dX12_wouldSay_154 fl_12_253 (by first | rfl | assumption | exact sh_house (by omega) | exact sh_wish (by omega) | exact sh_wor (by omega) | exact sh_bar (by omega) | exact sh_term (by omega) | exact sh_sheet (by omega) | exact sh_items (by omega) | exact sh_sums (by omega)) rfl ?_
            refine wp_iload (pc := 157) dX12_wouldSay_157 (by first | rfl | assumption | (repeat first | assumption | rfl | refine aG_n ?_ rfl rfl)) ?_
            refine wp_isub (pc := 159) dX12_wouldSay_159 ?_
            refine wp_i2l (pc := 160) dX12_wouldSay_160 ?_
            refine wp_lconst (pc := 161) (v := 0) dX12_wouldSay_161 (by decide) ?_
            refine wp_ldc2 (pc := 162) dX12_wouldSay_162 cl_12_151 ?_
            refine wp_cS (pc := 165) dX12_wouldSay_165 lk_12_133 rfl rfl rfl (c_X12_in (fun _ => aK_i ?_) (fun q => absurd (by rw [w_int]; exact c1) q))
            refine wp_if_eq (pc := 168) (tgt := 193) dX12_wouldSay_168 rfl (fun q => absurd q (by decide)) (fun _ => ?_)
            refine wp_aload_n (pc := 171) dX12_wouldSay_171 (by first | rfl | assumption | (repeat first | assumption | rfl | refine aG_n ?_ rfl rfl)) ?_
            refine wp_getI (pc := 172) dX12_wouldSay_172 fl_12_256 (by first | rfl | assumption | exact sh_house (by omega) | exact sh_wish (by omega) | exact sh_wor (by omega) | exact sh_bar (by omega) | exact sh_term (by omega) | exact sh_sheet (by omega) | exact sh_items (by omega) | exact sh_sums (by omega)) rfl ?_
            refine wp_iload (pc := 175) dX12_wouldSay_175 (by first | rfl | assumption | (repeat first | assumption | rfl | refine aG_n ?_ rfl rfl)) ?_
            refine wp_iadd (pc := 177) dX12_wouldSay_177 ?_
            refine wp_i2l (pc := 178) dX12_wouldSay_178 ?_
            refine wp_lconst (pc := 179) (v := 0) dX12_wouldSay_179 (by decide) ?_
            refine wp_ldc2 (pc := 180) dX12_wouldSay_180 cl_12_151 ?_
            refine wp_cS (pc := 183) dX12_wouldSay_183 lk_12_133 rfl rfl rfl (c_X12_in (fun _ => aK_i ?_) (fun q => absurd (by rw [w_int]; exact c2) q))
            refine wp_if_eq (pc := 186) (tgt := 193) dX12_wouldSay_186 rfl (fun q => absurd q (by decide)) (fun _ => ?_)
            refine wp_iconst (pc := 189) (v := 1) dX12_wouldSay_189 (by decide) ?_
            refine wp_goto (pc := 190) (tgt := 194) dX12_wouldSay_190 rfl ?_
            refine wp_istore (pc := 194) dX12_wouldSay_194 (by decide) ?_
            refine wp_iload (pc := 196) dX12_wouldSay_196 (by first | rfl | assumption | (repeat first | assumption | rfl | refine aG_n ?_ rfl rfl)) ?_
            refine wp_if_eq (pc := 198) (tgt := 235) dX12_wouldSay_198 rfl (fun q => absurd q (by decide)) (fun _ => ?_)
            refine wp_iload (pc := 201) dX12_wouldSay_201 (by first | rfl | assumption | (repeat first | assumption | rfl | refine aG_n ?_ rfl rfl)) ?_
            refine wp_aload_n (pc := 203) dX12_wouldSay_203 (by first | rfl | assumption | (repeat first | assumption | rfl | refine aG_n ?_ rfl rfl)) ?_
            refine wp_getR (pc := 204) dX12_wouldSay_204 fl_12_16 (by first | rfl | assumption | exact sh_house (by omega) | exact sh_wish (by omega) | exact sh_wor (by omega) | exact sh_bar (by omega) | exact sh_term (by omega) | exact sh_sheet (by omega) | exact sh_items (by omega) | exact sh_sums (by omega)) rfl ?_
            refine wp_iload_n (pc := 207) dX12_wouldSay_207 (by first | rfl | assumption | (repeat first | assumption | rfl | refine aG_n ?_ rfl rfl)) ?_
            refine wp_iald (pc := 208) dX12_wouldSay_208 (by first | rfl | assumption | exact sh_house (by omega) | exact sh_wish (by omega) | exact sh_wor (by omega) | exact sh_bar (by omega) | exact sh_term (by omega) | exact sh_sheet (by omega) | exact sh_items (by omega) | exact sh_sums (by omega)) (vp_in_nI (by omega) (by decide)) ?_
            refine wp_icmp_lt (pc := 209) (tgt := 235) dX12_wouldSay_209 rfl (fun q => absurd q (by rw [ch]; exact fun z => i_nle z hmn)) (fun _ => ?_)
            refine wp_iload (pc := 212) dX12_wouldSay_212 (by first | rfl | assumption | (repeat first | assumption | rfl | refine aG_n ?_ rfl rfl)) ?_
            refine wp_iload (pc := 214) dX12_wouldSay_214 (by first | rfl | assumption | (repeat first | assumption | rfl | refine aG_n ?_ rfl rfl)) ?_
            refine wp_icmp_lt (pc := 216) (tgt := 235) dX12_wouldSay_216 rfl (fun q => absurd q (fun z => i_nle z cl)) (fun _ => ?_)
            refine wp_aload_n (pc := 219) dX12_wouldSay_219 (by first | rfl | assumption | (repeat first | assumption | rfl | refine aG_n ?_ rfl rfl)) ?_
            refine wp_getR (pc := 220) dX12_wouldSay_220 fl_12_50 (by first | rfl | assumption | exact sh_house (by omega) | exact sh_wish (by omega) | exact sh_wor (by omega) | exact sh_bar (by omega) | exact sh_term (by omega) | exact sh_sheet (by omega) | exact sh_items (by omega) | exact sh_sums (by omega)) rfl ?_
            refine wp_iload_n (pc := 223) dX12_wouldSay_223 (by first | rfl | assumption | (repeat first | assumption | rfl | refine aG_n ?_ rfl rfl)) ?_
            refine wp_iald (pc := 224) dX12_wouldSay_224 (by first | rfl | assumption | exact sh_house (by omega) | exact sh_wish (by omega) | exact sh_wor (by omega) | exact sh_bar (by omega) | exact sh_term (by omega) | exact sh_sheet (by omega) | exact sh_items (by omega) | exact sh_sums (by omega)) (vp_in_nI (by omega) (by decide)) ?_
            refine wp_iconst (pc := 225) (v := 3) dX12_wouldSay_225 (by decide) ?_
            refine wp_icmp_ne (pc := 226) (tgt := 233) dX12_wouldSay_226 rfl (fun q => absurd (by rw [cpl]; exact o3) q) (fun _ => ?_)
            refine wp_iconst (pc := 229) (v := 1) dX12_wouldSay_229 (by decide) ?_
            refine wp_goto (pc := 230) (tgt := 234) dX12_wouldSay_230 rfl ?_
            refine wp_ireturn (pc := 234) dX12_wouldSay_234 rfl (by first | rfl | decide | assumption) ?_
            exact kt (hG.mpr o3) _ rf

          · refine wp_aload_n (pc := 139) dX12_wouldSay_139 (by first | rfl | assumption | (repeat first | assumption | rfl | refine aG_n ?_ rfl rfl)) ?_
            refine wp_iload (pc := 140) dX12_wouldSay_140 (by first | rfl | assumption | (repeat first | assumption | rfl | refine aG_n ?_ rfl rfl)) ?_
            refine wp_iload (pc := 142) dX12_wouldSay_142 (by first | rfl | assumption | (repeat first | assumption | rfl | refine aG_n ?_ rfl rfl)) ?_
            refine wp_iload (pc := 144) dX12_wouldSay_144 (by first | rfl | assumption | (repeat first | assumption | rfl | refine aG_n ?_ rfl rfl)) ?_
            refine wp_ixor (pc := 146) dX12_wouldSay_146 ?_
            refine wp_cV (pc := 147) dX12_wouldSay_147 lk_12_204 rfl (by decide) rfl (by first | rfl | assumption | exact sh_house (by omega) | exact sh_wish (by omega) | exact sh_wor (by omega) | exact sh_bar (by omega) | exact sh_term (by omega) | exact sh_sheet (by omega) | exact sh_items (by omega) | exact sh_sums (by omega)) rfl rfl ?_
            refine m_barred hW ho4 (x64 hto hu6) (xor6 hto hu6) (fun q => absurd cB q) (fun _ => aK_i ?_)
            refine wp_if_ne (pc := 150) (tgt := 193) dX12_wouldSay_150 rfl (fun q => absurd rfl q) (fun _ => ?_)
            refine wp_aload_n (pc := 153) dX12_wouldSay_153 (by first | rfl | assumption | (repeat first | assumption | rfl | refine aG_n ?_ rfl rfl)) ?_
            refine wp_getI (pc := 154) dX12_wouldSay_154 fl_12_253 (by first | rfl | assumption | exact sh_house (by omega) | exact sh_wish (by omega) | exact sh_wor (by omega) | exact sh_bar (by omega) | exact sh_term (by omega) | exact sh_sheet (by omega) | exact sh_items (by omega) | exact sh_sums (by omega)) rfl ?_
            refine wp_iload (pc := 157) dX12_wouldSay_157 (by first | rfl | assumption | (repeat first | assumption | rfl | refine aG_n ?_ rfl rfl)) ?_
            refine wp_isub (pc := 159) dX12_wouldSay_159 ?_
            refine wp_i2l (pc := 160) dX12_wouldSay_160 ?_
            refine wp_lconst (pc := 161) (v := 0) dX12_wouldSay_161 (by decide) ?_
            refine wp_ldc2 (pc := 162) dX12_wouldSay_162 cl_12_151 ?_
            refine wp_cS (pc := 165) dX12_wouldSay_165 lk_12_133 rfl rfl rfl (c_X12_in (fun _ => aK_i ?_) (fun q => absurd (by rw [w_int]; exact c1) q))
            refine wp_if_eq (pc := 168) (tgt := 193) dX12_wouldSay_168 rfl (fun q => absurd q (by decide)) (fun _ => ?_)
            refine wp_aload_n (pc := 171) dX12_wouldSay_171 (by first | rfl | assumption | (repeat first | assumption | rfl | refine aG_n ?_ rfl rfl)) ?_
            refine wp_getI (pc := 172) dX12_wouldSay_172 fl_12_256 (by first | rfl | assumption | exact sh_house (by omega) | exact sh_wish (by omega) | exact sh_wor (by omega) | exact sh_bar (by omega) | exact sh_term (by omega) | exact sh_sheet (by omega) | exact sh_items (by omega) | exact sh_sums (by omega)) rfl ?_
            refine wp_iload (pc := 175) dX12_wouldSay_175 (by first | rfl | assumption | (repeat first | assumption | rfl | refine aG_n ?_ rfl rfl)) ?_
            refine wp_iadd (pc := 177) dX12_wouldSay_177 ?_
            refine wp_i2l (pc := 178) dX12_wouldSay_178 ?_
            refine wp_lconst (pc := 179) (v := 0) dX12_wouldSay_179 (by decide) ?_
            refine wp_ldc2 (pc := 180) dX12_wouldSay_180 cl_12_151 ?_
            refine wp_cS (pc := 183) dX12_wouldSay_183 lk_12_133 rfl rfl rfl (c_X12_in (fun _ => aK_i ?_) (fun q => absurd (by rw [w_int]; exact c2) q))
            refine wp_if_eq (pc := 186) (tgt := 193) dX12_wouldSay_186 rfl (fun q => absurd q (by decide)) (fun _ => ?_)
            refine wp_iconst (pc := 189) (v := 1) dX12_wouldSay_189 (by decide) ?_
            refine wp_goto (pc := 190) (tgt := 194) dX12_wouldSay_190 rfl ?_
            refine wp_istore (pc := 194) dX12_wouldSay_194 (by decide) ?_
            refine wp_iload (pc := 196) dX12_wouldSay_196 (by first | rfl | assumption | (repeat first | assumption | rfl | refine aG_n ?_ rfl rfl)) ?_
            refine wp_if_eq (pc := 198) (tgt := 235) dX12_wouldSay_198 rfl (fun q => absurd q (by decide)) (fun _ => ?_)
            refine wp_iload (pc := 201) dX12_wouldSay_201 (by first | rfl | assumption | (repeat first | assumption | rfl | refine aG_n ?_ rfl rfl)) ?_
            refine wp_aload_n (pc := 203) dX12_wouldSay_203 (by first | rfl | assumption | (repeat first | assumption | rfl | refine aG_n ?_ rfl rfl)) ?_
            refine wp_getR (pc := 204) dX12_wouldSay_204 fl_12_16 (by first | rfl | assumption | exact sh_house (by omega) | exact sh_wish (by omega) | exact sh_wor (by omega) | exact sh_bar (by omega) | exact sh_term (by omega) | exact sh_sheet (by omega) | exact sh_items (by omega) | exact sh_sums (by omega)) rfl ?_
            refine wp_iload_n (pc := 207) dX12_wouldSay_207 (by first | rfl | assumption | (repeat first | assumption | rfl | refine aG_n ?_ rfl rfl)) ?_
            refine wp_iald (pc := 208) dX12_wouldSay_208 (by first | rfl | assumption | exact sh_house (by omega) | exact sh_wish (by omega) | exact sh_wor (by omega) | exact sh_bar (by omega) | exact sh_term (by omega) | exact sh_sheet (by omega) | exact sh_items (by omega) | exact sh_sums (by omega)) (vp_in_nI (by omega) (by decide)) ?_
            refine wp_icmp_lt (pc := 209) (tgt := 235) dX12_wouldSay_209 rfl (fun q => absurd q (by rw [ch]; exact fun z => i_nle z hmn)) (fun _ => ?_)
            refine wp_iload (pc := 212) dX12_wouldSay_212 (by first | rfl | assumption | (repeat first | assumption | rfl | refine aG_n ?_ rfl rfl)) ?_
            refine wp_iload (pc := 214) dX12_wouldSay_214 (by first | rfl | assumption | (repeat first | assumption | rfl | refine aG_n ?_ rfl rfl)) ?_
            refine wp_icmp_lt (pc := 216) (tgt := 235) dX12_wouldSay_216 rfl (fun q => absurd q (fun z => i_nle z cl)) (fun _ => ?_)
            refine wp_aload_n (pc := 219) dX12_wouldSay_219 (by first | rfl | assumption | (repeat first | assumption | rfl | refine aG_n ?_ rfl rfl)) ?_
            refine wp_getR (pc := 220) dX12_wouldSay_220 fl_12_50 (by first | rfl | assumption | exact sh_house (by omega) | exact sh_wish (by omega) | exact sh_wor (by omega) | exact sh_bar (by omega) | exact sh_term (by omega) | exact sh_sheet (by omega) | exact sh_items (by omega) | exact sh_sums (by omega)) rfl ?_
            refine wp_iload_n (pc := 223) dX12_wouldSay_223 (by first | rfl | assumption | (repeat first | assumption | rfl | refine aG_n ?_ rfl rfl)) ?_
            refine wp_iald (pc := 224) dX12_wouldSay_224 (by first | rfl | assumption | exact sh_house (by omega) | exact sh_wish (by omega) | exact sh_wor (by omega) | exact sh_bar (by omega) | exact sh_term (by omega) | exact sh_sheet (by omega) | exact sh_items (by omega) | exact sh_sums (by omega)) (vp_in_nI (by omega) (by decide)) ?_
            refine wp_iconst (pc := 225) (v := 3) dX12_wouldSay_225 (by decide) ?_
            refine wp_icmp_ne (pc := 226) (tgt := 233) dX12_wouldSay_226 rfl (fun _ => ?_) (fun q => absurd q (by rw [cpl]; exact o3))
            refine wp_iconst (pc := 233) (v := 0) dX12_wouldSay_233 (by decide) ?_
            refine wp_ireturn (pc := 234) dX12_wouldSay_234 rfl (by first | rfl | decide | assumption) ?_
            exact kf (fun z => o3 (hG.mp z)) _ rf

        · refine wp_aload_n (pc := 139) dX12_wouldSay_139 (by first | rfl | assumption | (repeat first | assumption | rfl | refine aG_n ?_ rfl rfl)) ?_
          refine wp_iload (pc := 140) dX12_wouldSay_140 (by first | rfl | assumption | (repeat first | assumption | rfl | refine aG_n ?_ rfl rfl)) ?_
          refine wp_iload (pc := 142) dX12_wouldSay_142 (by first | rfl | assumption | (repeat first | assumption | rfl | refine aG_n ?_ rfl rfl)) ?_
          refine wp_iload (pc := 144) dX12_wouldSay_144 (by first | rfl | assumption | (repeat first | assumption | rfl | refine aG_n ?_ rfl rfl)) ?_
          refine wp_ixor (pc := 146) dX12_wouldSay_146 ?_
          refine wp_cV (pc := 147) dX12_wouldSay_147 lk_12_204 rfl (by decide) rfl (by first | rfl | assumption | exact sh_house (by omega) | exact sh_wish (by omega) | exact sh_wor (by omega) | exact sh_bar (by omega) | exact sh_term (by omega) | exact sh_sheet (by omega) | exact sh_items (by omega) | exact sh_sums (by omega)) rfl rfl ?_
          refine m_barred hW ho4 (x64 hto hu6) (xor6 hto hu6) (fun q => absurd cB q) (fun _ => aK_i ?_)
          refine wp_if_ne (pc := 150) (tgt := 193) dX12_wouldSay_150 rfl (fun q => absurd rfl q) (fun _ => ?_)
          refine wp_aload_n (pc := 153) dX12_wouldSay_153 (by first | rfl | assumption | (repeat first | assumption | rfl | refine aG_n ?_ rfl rfl)) ?_
          refine wp_getI (pc := 154) dX12_wouldSay_154 fl_12_253 (by first | rfl | assumption | exact sh_house (by omega) | exact sh_wish (by omega) | exact sh_wor (by omega) | exact sh_bar (by omega) | exact sh_term (by omega) | exact sh_sheet (by omega) | exact sh_items (by omega) | exact sh_sums (by omega)) rfl ?_
          refine wp_iload (pc := 157) dX12_wouldSay_157 (by first | rfl | assumption | (repeat first | assumption | rfl | refine aG_n ?_ rfl rfl)) ?_
          refine wp_isub (pc := 159) dX12_wouldSay_159 ?_
          refine wp_i2l (pc := 160) dX12_wouldSay_160 ?_
          refine wp_lconst (pc := 161) (v := 0) dX12_wouldSay_161 (by decide) ?_
          refine wp_ldc2 (pc := 162) dX12_wouldSay_162 cl_12_151 ?_
          refine wp_cS (pc := 165) dX12_wouldSay_165 lk_12_133 rfl rfl rfl (c_X12_in (fun _ => aK_i ?_) (fun q => absurd (by rw [w_int]; exact c1) q))
          refine wp_if_eq (pc := 168) (tgt := 193) dX12_wouldSay_168 rfl (fun q => absurd q (by decide)) (fun _ => ?_)
          refine wp_aload_n (pc := 171) dX12_wouldSay_171 (by first | rfl | assumption | (repeat first | assumption | rfl | refine aG_n ?_ rfl rfl)) ?_
          refine wp_getI (pc := 172) dX12_wouldSay_172 fl_12_256 (by first | rfl | assumption | exact sh_house (by omega) | exact sh_wish (by omega) | exact sh_wor (by omega) | exact sh_bar (by omega) | exact sh_term (by omega) | exact sh_sheet (by omega) | exact sh_items (by omega) | exact sh_sums (by omega)) rfl ?_
          refine wp_iload (pc := 175) dX12_wouldSay_175 (by first | rfl | assumption | (repeat first | assumption | rfl | refine aG_n ?_ rfl rfl)) ?_
          refine wp_iadd (pc := 177) dX12_wouldSay_177 ?_
          refine wp_i2l (pc := 178) dX12_wouldSay_178 ?_
          refine wp_lconst (pc := 179) (v := 0) dX12_wouldSay_179 (by decide) ?_
          refine wp_ldc2 (pc := 180) dX12_wouldSay_180 cl_12_151 ?_
          refine wp_cS (pc := 183) dX12_wouldSay_183 lk_12_133 rfl rfl rfl (c_X12_in (fun _ => aK_i ?_) (fun q => absurd (by rw [w_int]; exact c2) q))
          refine wp_if_eq (pc := 186) (tgt := 193) dX12_wouldSay_186 rfl (fun q => absurd q (by decide)) (fun _ => ?_)
          refine wp_iconst (pc := 189) (v := 1) dX12_wouldSay_189 (by decide) ?_
          refine wp_goto (pc := 190) (tgt := 194) dX12_wouldSay_190 rfl ?_
          refine wp_istore (pc := 194) dX12_wouldSay_194 (by decide) ?_
          refine wp_iload (pc := 196) dX12_wouldSay_196 (by first | rfl | assumption | (repeat first | assumption | rfl | refine aG_n ?_ rfl rfl)) ?_
          refine wp_if_eq (pc := 198) (tgt := 235) dX12_wouldSay_198 rfl (fun q => absurd q (by decide)) (fun _ => ?_)
          refine wp_iload (pc := 201) dX12_wouldSay_201 (by first | rfl | assumption | (repeat first | assumption | rfl | refine aG_n ?_ rfl rfl)) ?_
          refine wp_aload_n (pc := 203) dX12_wouldSay_203 (by first | rfl | assumption | (repeat first | assumption | rfl | refine aG_n ?_ rfl rfl)) ?_
          refine wp_getR (pc := 204) dX12_wouldSay_204 fl_12_16 (by first | rfl | assumption | exact sh_house (by omega) | exact sh_wish (by omega) | exact sh_wor (by omega) | exact sh_bar (by omega) | exact sh_term (by omega) | exact sh_sheet (by omega) | exact sh_items (by omega) | exact sh_sums (by omega)) rfl ?_
          refine wp_iload_n (pc := 207) dX12_wouldSay_207 (by first | rfl | assumption | (repeat first | assumption | rfl | refine aG_n ?_ rfl rfl)) ?_
          refine wp_iald (pc := 208) dX12_wouldSay_208 (by first | rfl | assumption | exact sh_house (by omega) | exact sh_wish (by omega) | exact sh_wor (by omega) | exact sh_bar (by omega) | exact sh_term (by omega) | exact sh_sheet (by omega) | exact sh_items (by omega) | exact sh_sums (by omega)) (vp_in_nI (by omega) (by decide)) ?_
          refine wp_icmp_lt (pc := 209) (tgt := 235) dX12_wouldSay_209 rfl (fun c209_1 => ?_) (fun c209_1 => ?_)
          · exact l_ws235 hL hd hpl hA hlv hsg (fun z => cl (hYi.mp z).2) kt kf _ (by first | rfl | assumption | (repeat first | assumption | rfl | refine aG_n ?_ rfl rfl)) (by first | rfl | assumption | (repeat first | assumption | rfl | refine aG_n ?_ rfl rfl)) (by first | rfl | assumption | (repeat first | assumption | rfl | refine aG_n ?_ rfl rfl)) (by first | rfl | assumption | (repeat first | assumption | rfl | refine aG_n ?_ rfl rfl)) (by first | rfl | assumption | (repeat first | assumption | rfl | refine aG_n ?_ rfl rfl)) (by first | rfl | assumption | (repeat first | assumption | rfl | refine aG_n ?_ rfl rfl))
          · refine wp_iload (pc := 212) dX12_wouldSay_212 (by first | rfl | assumption | (repeat first | assumption | rfl | refine aG_n ?_ rfl rfl)) ?_
            refine wp_iload (pc := 214) dX12_wouldSay_214 (by first | rfl | assumption | (repeat first | assumption | rfl | refine aG_n ?_ rfl rfl)) ?_
            refine wp_icmp_lt (pc := 216) (tgt := 235) dX12_wouldSay_216 rfl (fun _ => ?_) (fun q => absurd (i_nle2 cl) q)
            exact l_ws235 hL hd hpl hA hlv hsg (fun z => cl (hYi.mp z).2) kt kf _ (by first | rfl | assumption | (repeat first | assumption | rfl | refine aG_n ?_ rfl rfl)) (by first | rfl | assumption | (repeat first | assumption | rfl | refine aG_n ?_ rfl rfl)) (by first | rfl | assumption | (repeat first | assumption | rfl | refine aG_n ?_ rfl rfl)) (by first | rfl | assumption | (repeat first | assumption | rfl | refine aG_n ?_ rfl rfl)) (by first | rfl | assumption | (repeat first | assumption | rfl | refine aG_n ?_ rfl rfl)) (by first | rfl | assumption | (repeat first | assumption | rfl | refine aG_n ?_ rfl rfl))

      · refine wp_aload_n (pc := 139) dX12_wouldSay_139 (by first | rfl | assumption | (repeat first | assumption | rfl | refine aG_n ?_ rfl rfl)) ?_
        refine wp_iload (pc := 140) dX12_wouldSay_140 (by first | rfl | assumption | (repeat first | assumption | rfl | refine aG_n ?_ rfl rfl)) ?_
        refine wp_iload (pc := 142) dX12_wouldSay_142 (by first | rfl | assumption | (repeat first | assumption | rfl | refine aG_n ?_ rfl rfl)) ?_
        refine wp_iload (pc := 144) dX12_wouldSay_144 (by first | rfl | assumption | (repeat first | assumption | rfl | refine aG_n ?_ rfl rfl)) ?_
        refine wp_ixor (pc := 146) dX12_wouldSay_146 ?_
        refine wp_cV (pc := 147) dX12_wouldSay_147 lk_12_204 rfl (by decide) rfl (by first | rfl | assumption | exact sh_house (by omega) | exact sh_wish (by omega) | exact sh_wor (by omega) | exact sh_bar (by omega) | exact sh_term (by omega) | exact sh_sheet (by omega) | exact sh_items (by omega) | exact sh_sums (by omega)) rfl rfl ?_
        refine m_barred hW ho4 (x64 hto hu6) (xor6 hto hu6) (fun q => absurd cB q) (fun _ => aK_i ?_)
        refine wp_if_ne (pc := 150) (tgt := 193) dX12_wouldSay_150 rfl (fun q => absurd rfl q) (fun _ => ?_)
        refine wp_aload_n (pc := 153) dX12_wouldSay_153 (by first | rfl | assumption | (repeat first | assumption | rfl | refine aG_n ?_ rfl rfl)) ?_
        refine wp_getI (pc := 154) dX12_wouldSay_154 fl_12_253 (by first | rfl | assumption | exact sh_house (by omega) | exact sh_wish (by omega) | exact sh_wor (by omega) | exact sh_bar (by omega) | exact sh_term (by omega) | exact sh_sheet (by omega) | exact sh_items (by omega) | exact sh_sums (by omega)) rfl ?_
        refine wp_iload (pc := 157) dX12_wouldSay_157 (by first | rfl | assumption | (repeat first | assumption | rfl | refine aG_n ?_ rfl rfl)) ?_
        refine wp_isub (pc := 159) dX12_wouldSay_159 ?_
        refine wp_i2l (pc := 160) dX12_wouldSay_160 ?_
        refine wp_lconst (pc := 161) (v := 0) dX12_wouldSay_161 (by decide) ?_
        refine wp_ldc2 (pc := 162) dX12_wouldSay_162 cl_12_151 ?_
        refine wp_cS (pc := 165) dX12_wouldSay_165 lk_12_133 rfl rfl rfl (c_X12_in (fun _ => aK_i ?_) (fun q => absurd (by rw [w_int]; exact c1) q))
        refine wp_if_eq (pc := 168) (tgt := 193) dX12_wouldSay_168 rfl (fun q => absurd q (by decide)) (fun _ => ?_)
        refine wp_aload_n (pc := 171) dX12_wouldSay_171 (by first | rfl | assumption | (repeat first | assumption | rfl | refine aG_n ?_ rfl rfl)) ?_
        refine wp_getI (pc := 172) dX12_wouldSay_172 fl_12_256 (by first | rfl | assumption | exact sh_house (by omega) | exact sh_wish (by omega) | exact sh_wor (by omega) | exact sh_bar (by omega) | exact sh_term (by omega) | exact sh_sheet (by omega) | exact sh_items (by omega) | exact sh_sums (by omega)) rfl ?_
        refine wp_iload (pc := 175) dX12_wouldSay_175 (by first | rfl | assumption | (repeat first | assumption | rfl | refine aG_n ?_ rfl rfl)) ?_
        refine wp_iadd (pc := 177) dX12_wouldSay_177 ?_
        refine wp_i2l (pc := 178) dX12_wouldSay_178 ?_
        refine wp_lconst (pc := 179) (v := 0) dX12_wouldSay_179 (by decide) ?_
        refine wp_ldc2 (pc := 180) dX12_wouldSay_180 cl_12_151 ?_
        refine wp_cS (pc := 183) dX12_wouldSay_183 lk_12_133 rfl rfl rfl (c_X12_in (fun q => absurd q (by rw [w_int]; exact c2)) (fun _ => aK_i ?_))
        refine wp_if_eq (pc := 186) (tgt := 193) dX12_wouldSay_186 rfl (fun _ => ?_) (fun q => absurd q (by decide))
        refine wp_iconst (pc := 193) (v := 0) dX12_wouldSay_193 (by decide) ?_
        refine wp_istore (pc := 194) dX12_wouldSay_194 (by decide) ?_
        refine wp_iload (pc := 196) dX12_wouldSay_196 (by first | rfl | assumption | (repeat first | assumption | rfl | refine aG_n ?_ rfl rfl)) ?_
        refine wp_if_eq (pc := 198) (tgt := 235) dX12_wouldSay_198 rfl (fun _ => ?_) (fun q => absurd q (by decide))
        exact l_ws235 hL hd hpl hA hlv hsg (fun z => c2 (hYi.mp z).1.2.2) kt kf _ (by first | rfl | assumption | (repeat first | assumption | rfl | refine aG_n ?_ rfl rfl)) (by first | rfl | assumption | (repeat first | assumption | rfl | refine aG_n ?_ rfl rfl)) (by first | rfl | assumption | (repeat first | assumption | rfl | refine aG_n ?_ rfl rfl)) (by first | rfl | assumption | (repeat first | assumption | rfl | refine aG_n ?_ rfl rfl)) (by first | rfl | assumption | (repeat first | assumption | rfl | refine aG_n ?_ rfl rfl)) (by first | rfl | assumption | (repeat first | assumption | rfl | refine aG_n ?_ rfl rfl))

    · refine wp_aload_n (pc := 139) dX12_wouldSay_139 (by first | rfl | assumption | (repeat first | assumption | rfl | refine aG_n ?_ rfl rfl)) ?_
      refine wp_iload (pc := 140) dX12_wouldSay_140 (by first | rfl | assumption | (repeat first | assumption | rfl | refine aG_n ?_ rfl rfl)) ?_
      refine wp_iload (pc := 142) dX12_wouldSay_142 (by first | rfl | assumption | (repeat first | assumption | rfl | refine aG_n ?_ rfl rfl)) ?_
      refine wp_iload (pc := 144) dX12_wouldSay_144 (by first | rfl | assumption | (repeat first | assumption | rfl | refine aG_n ?_ rfl rfl)) ?_
      refine wp_ixor (pc := 146) dX12_wouldSay_146 ?_
      refine wp_cV (pc := 147) dX12_wouldSay_147 lk_12_204 rfl (by decide) rfl (by first | rfl | assumption | exact sh_house (by omega) | exact sh_wish (by omega) | exact sh_wor (by omega) | exact sh_bar (by omega) | exact sh_term (by omega) | exact sh_sheet (by omega) | exact sh_items (by omega) | exact sh_sums (by omega)) rfl rfl ?_
      refine m_barred hW ho4 (x64 hto hu6) (xor6 hto hu6) (fun q => absurd cB q) (fun _ => aK_i ?_)
      refine wp_if_ne (pc := 150) (tgt := 193) dX12_wouldSay_150 rfl (fun q => absurd rfl q) (fun _ => ?_)
      refine wp_aload_n (pc := 153) dX12_wouldSay_153 (by first | rfl | assumption | (repeat first | assumption | rfl | refine aG_n ?_ rfl rfl)) ?_
      refine wp_getI (pc := 154) dX12_wouldSay_154 fl_12_253 (by first | rfl | assumption | exact sh_house (by omega) | exact sh_wish (by omega) | exact sh_wor (by omega) | exact sh_bar (by omega) | exact sh_term (by omega) | exact sh_sheet (by omega) | exact sh_items (by omega) | exact sh_sums (by omega)) rfl ?_
      refine wp_iload (pc := 157) dX12_wouldSay_157 (by first | rfl | assumption | (repeat first | assumption | rfl | refine aG_n ?_ rfl rfl)) ?_
      refine wp_isub (pc := 159) dX12_wouldSay_159 ?_
      refine wp_i2l (pc := 160) dX12_wouldSay_160 ?_
      refine wp_lconst (pc := 161) (v := 0) dX12_wouldSay_161 (by decide) ?_
      refine wp_ldc2 (pc := 162) dX12_wouldSay_162 cl_12_151 ?_
      refine wp_cS (pc := 165) dX12_wouldSay_165 lk_12_133 rfl rfl rfl (c_X12_in (fun q => absurd q (by rw [w_int]; exact c1)) (fun _ => aK_i ?_))
      refine wp_if_eq (pc := 168) (tgt := 193) dX12_wouldSay_168 rfl (fun _ => ?_) (fun q => absurd q (by decide))
      refine wp_iconst (pc := 193) (v := 0) dX12_wouldSay_193 (by decide) ?_
      refine wp_istore (pc := 194) dX12_wouldSay_194 (by decide) ?_
      refine wp_iload (pc := 196) dX12_wouldSay_196 (by first | rfl | assumption | (repeat first | assumption | rfl | refine aG_n ?_ rfl rfl)) ?_
      refine wp_if_eq (pc := 198) (tgt := 235) dX12_wouldSay_198 rfl (fun _ => ?_) (fun q => absurd q (by decide))
      exact l_ws235 hL hd hpl hA hlv hsg (fun z => c1 (hYi.mp z).1.2.1) kt kf _ (by first | rfl | assumption | (repeat first | assumption | rfl | refine aG_n ?_ rfl rfl)) (by first | rfl | assumption | (repeat first | assumption | rfl | refine aG_n ?_ rfl rfl)) (by first | rfl | assumption | (repeat first | assumption | rfl | refine aG_n ?_ rfl rfl)) (by first | rfl | assumption | (repeat first | assumption | rfl | refine aG_n ?_ rfl rfl)) (by first | rfl | assumption | (repeat first | assumption | rfl | refine aG_n ?_ rfl rfl)) (by first | rfl | assumption | (repeat first | assumption | rfl | refine aG_n ?_ rfl rfl))

  · refine wp_aload_n (pc := 139) dX12_wouldSay_139 (by first | rfl | assumption | (repeat first | assumption | rfl | refine aG_n ?_ rfl rfl)) ?_
    refine wp_iload (pc := 140) dX12_wouldSay_140 (by first | rfl | assumption | (repeat first | assumption | rfl | refine aG_n ?_ rfl rfl)) ?_
    refine wp_iload (pc := 142) dX12_wouldSay_142 (by first | rfl | assumption | (repeat first | assumption | rfl | refine aG_n ?_ rfl rfl)) ?_
    refine wp_iload (pc := 144) dX12_wouldSay_144 (by first | rfl | assumption | (repeat first | assumption | rfl | refine aG_n ?_ rfl rfl)) ?_
    refine wp_ixor (pc := 146) dX12_wouldSay_146 ?_
    refine wp_cV (pc := 147) dX12_wouldSay_147 lk_12_204 rfl (by decide) rfl (by first | rfl | assumption | exact sh_house (by omega) | exact sh_wish (by omega) | exact sh_wor (by omega) | exact sh_bar (by omega) | exact sh_term (by omega) | exact sh_sheet (by omega) | exact sh_items (by omega) | exact sh_sums (by omega)) rfl rfl ?_
    refine m_barred hW ho4 (x64 hto hu6) (xor6 hto hu6) (fun _ => aK_i ?_) (fun q => absurd q cB)
    refine wp_if_ne (pc := 150) (tgt := 193) dX12_wouldSay_150 rfl (fun _ => ?_) (fun q => absurd q (by decide))
    refine wp_iconst (pc := 193) (v := 0) dX12_wouldSay_193 (by decide) ?_
    refine wp_istore (pc := 194) dX12_wouldSay_194 (by decide) ?_
    refine wp_iload (pc := 196) dX12_wouldSay_196 (by first | rfl | assumption | (repeat first | assumption | rfl | refine aG_n ?_ rfl rfl)) ?_
    refine wp_if_eq (pc := 198) (tgt := 235) dX12_wouldSay_198 rfl (fun _ => ?_) (fun q => absurd q (by decide))
    exact l_ws235 hL hd hpl hA hlv hsg (fun z => cB (hYi.mp z).1.1) kt kf _ (by first | rfl | assumption | (repeat first | assumption | rfl | refine aG_n ?_ rfl rfl)) (by first | rfl | assumption | (repeat first | assumption | rfl | refine aG_n ?_ rfl rfl)) (by first | rfl | assumption | (repeat first | assumption | rfl | refine aG_n ?_ rfl rfl)) (by first | rfl | assumption | (repeat first | assumption | rfl | refine aG_n ?_ rfl rfl)) (by first | rfl | assumption | (repeat first | assumption | rfl | refine aG_n ?_ rfl rfl)) (by first | rfl | assumption | (repeat first | assumption | rfl | refine aG_n ?_ rfl rfl))

theorem l_ws87 {lv sg : Int32} (hW : I_wish μ.1) (hL : LK μ.1 R a b w ta tb) (hd : d < 2) (hpl : pl < w) (hA : AS μ.1 (ta ||| tb) c) (hlv : lv = lvG μ.1 (two a b d) (pl / 2)) (hsg : (d = 0 ∧ sg = -1) ∨ (d = 1 ∧ sg = 1)) (kt : GW μ.1 a b ta tb d c pl → ∀ μ', offM μ μ' → Q (some (.int 1)) μ') (kf : ¬ GW μ.1 a b ta tb d c pl → ∀ μ', offM μ μ' → Q (some (.int 0)) μ') (L : aL) (g0 : aL_get L 0 = some (.ref 86)) (g1 : aL_get L 1 = some (.int (nI (two a b d)))) (g2 : aL_get L 2 = some (.int (nI pl))) (g3 : aL_get L 3 = some (.int (nI (two ta tb d)))) (g4 : aL_get L 4 = some (.int (nI (two tb ta d)))) (g5 : aL_get L 5 = some (.int (nI (two b a d)))) (g6 : aL_get L 6 = some (.int lv)) (g7 : aL_get L 7 = some (.int sg)) : WP X mX12_wouldSay 87 L [] μ Q := by
  obtain ⟨⟨ha, hb, hab⟩, -, ⟨hw, l31, l32⟩, ⟨hta, htb⟩, ⟨l51, l52, l53, l54⟩, -, -, -, l9⟩ := id hL
  have htd : two ta tb d < 64 := by unfold two; split <;> assumption
  have hto : two tb ta d < 64 := by unfold two; split <;> assumption
  have hh : two a b d < 4 := two_lt ha hb
  have ho4 : two b a d < 4 := two_lt hb ha
  have cpl : (nI pl).toNatClampNeg = pl := nI_clamp (by omega)
  have ch : (nI (two a b d)).toNatClampNeg = two a b d := nI_clamp (by omega)
  have rf : offM μ μ := ⟨fun _ _ _ => rfl, rfl⟩
  by_cases cO : 0 < pl ∧ isOf μ.1 (pl - 1)
  · have cO' := (ofW_p hw (Nat.le_of_lt hpl)).mpr cO
    obtain ⟨m, rfl⟩ : ∃ m, pl = m + 1 := ⟨pl - 1, by omega⟩
    have cO2 : isOf μ.1 m := cO.2
    obtain ⟨⟨e1, e2⟩, -⟩ := (l9 m (by omega)).1 cO2
    have cm : (nI m).toNatClampNeg = m := nI_clamp (by omega)
    have egn : svG (ta ||| tb) c (two ta tb d ^^^ wu μ.1 m) - svG (ta ||| tb) c (two ta tb d) + sg * μ.1 102 m = gnG (ta ||| tb) c (two ta tb d) d (wu μ.1 m) (μ.1 102 m) := by
      unfold gnG
      rcases hsg with ⟨rfl, rfl⟩ | ⟨rfl, rfl⟩
      · rw [neg1_mul, if_pos rfl, Int32.sub_eq_add_neg (svG (ta ||| tb) c (two ta tb 0 ^^^ wu μ.1 m) - svG (ta ||| tb) c (two ta tb 0)) (μ.1 102 m)]
      · rw [Int32.one_mul, if_neg (by decide)]
    refine wp_aload_n (pc := 87) dX12_wouldSay_87 (by first | rfl | assumption | (repeat first | assumption | rfl | refine aG_n ?_ rfl rfl)) ?_
    refine wp_iload_n (pc := 88) dX12_wouldSay_88 (by first | rfl | assumption | (repeat first | assumption | rfl | refine aG_n ?_ rfl rfl)) ?_
    refine wp_iconst (pc := 89) (v := 1) dX12_wouldSay_89 (by decide) ?_
    refine wp_isub (pc := 90) dX12_wouldSay_90 ?_
    refine wp_cV (pc := 91) dX12_wouldSay_91 lk_12_266 rfl (by decide) rfl (by first | rfl | assumption | exact sh_house (by omega) | exact sh_wish (by omega) | exact sh_wor (by omega) | exact sh_bar (by omega) | exact sh_term (by omega) | exact sh_sheet (by omega) | exact sh_items (by omega) | exact sh_sums (by omega)) rfl rfl (c_X12_isOffer hw l32 (fun _ => aK_i ?_) (fun q => absurd cO' q))
    refine wp_if_eq (pc := 94) (tgt := 235) dX12_wouldSay_94 rfl (fun q => absurd q (by decide)) (fun _ => ?_)
    refine wp_aload_n (pc := 97) dX12_wouldSay_97 (by first | rfl | assumption | (repeat first | assumption | rfl | refine aG_n ?_ rfl rfl)) ?_
    refine wp_getR (pc := 98) dX12_wouldSay_98 fl_12_53 (by first | rfl | assumption | exact sh_house (by omega) | exact sh_wish (by omega) | exact sh_wor (by omega) | exact sh_bar (by omega) | exact sh_term (by omega) | exact sh_sheet (by omega) | exact sh_items (by omega) | exact sh_sums (by omega)) rfl ?_
    refine wp_iload_n (pc := 101) dX12_wouldSay_101 (by first | rfl | assumption | (repeat first | assumption | rfl | refine aG_n ?_ rfl rfl)) ?_
    refine wp_iconst (pc := 102) (v := 1) dX12_wouldSay_102 (by decide) ?_
    refine wp_isub (pc := 103) dX12_wouldSay_103 ?_
    refine wp_iald (pc := 104) dX12_wouldSay_104 (by first | rfl | assumption | exact sh_house (by omega) | exact sh_wish (by omega) | exact sh_wor (by omega) | exact sh_bar (by omega) | exact sh_term (by omega) | exact sh_sheet (by omega) | exact sh_items (by omega) | exact sh_sums (by omega)) (by rw [nI_pred]; exact vp_in_nI (by omega) (by decide)) ?_
    refine wp_istore (pc := 105) dX12_wouldSay_105 (by decide) ?_
    refine wp_aload_n (pc := 107) dX12_wouldSay_107 (by first | rfl | assumption | (repeat first | assumption | rfl | refine aG_n ?_ rfl rfl)) ?_
    refine wp_getR (pc := 108) dX12_wouldSay_108 fl_12_56 (by first | rfl | assumption | exact sh_house (by omega) | exact sh_wish (by omega) | exact sh_wor (by omega) | exact sh_bar (by omega) | exact sh_term (by omega) | exact sh_sheet (by omega) | exact sh_items (by omega) | exact sh_sums (by omega)) rfl ?_
    refine wp_iload_n (pc := 111) dX12_wouldSay_111 (by first | rfl | assumption | (repeat first | assumption | rfl | refine aG_n ?_ rfl rfl)) ?_
    refine wp_iconst (pc := 112) (v := 1) dX12_wouldSay_112 (by decide) ?_
    refine wp_isub (pc := 113) dX12_wouldSay_113 ?_
    refine wp_iald (pc := 114) dX12_wouldSay_114 (by first | rfl | assumption | exact sh_house (by omega) | exact sh_wish (by omega) | exact sh_wor (by omega) | exact sh_bar (by omega) | exact sh_term (by omega) | exact sh_sheet (by omega) | exact sh_items (by omega) | exact sh_sums (by omega)) (by rw [nI_pred]; exact vp_in_nI (by omega) (by decide)) ?_
    refine wp_istore (pc := 115) dX12_wouldSay_115 (by decide) ?_
    refine wp_aload_n (pc := 117) dX12_wouldSay_117 (by first | rfl | assumption | (repeat first | assumption | rfl | refine aG_n ?_ rfl rfl)) ?_
    refine wp_iload_n (pc := 118) dX12_wouldSay_118 (by first | rfl | assumption | (repeat first | assumption | rfl | refine aG_n ?_ rfl rfl)) ?_
    refine wp_iload (pc := 119) dX12_wouldSay_119 (by first | rfl | assumption | (repeat first | assumption | rfl | refine aG_n ?_ rfl rfl)) ?_
    refine wp_ixor (pc := 121) dX12_wouldSay_121 ?_
    refine wp_cV (pc := 122) dX12_wouldSay_122 lk_12_298 rfl (by decide) rfl (by first | rfl | assumption | exact sh_house (by omega) | exact sh_wish (by omega) | exact sh_wor (by omega) | exact sh_bar (by omega) | exact sh_term (by omega) | exact sh_sheet (by omega) | exact sh_items (by omega) | exact sh_sums (by omega)) rfl rfl ?_
    rw [nI_pred, cm, e1]
    refine c_aw (o64 hta htb) (x64 htd e2) (xor6 htd e2) hA (aK_i ?_)
    refine wp_aload_n (pc := 125) dX12_wouldSay_125 (by first | rfl | assumption | (repeat first | assumption | rfl | refine aG_n ?_ rfl rfl)) ?_
    refine wp_iload_n (pc := 126) dX12_wouldSay_126 (by first | rfl | assumption | (repeat first | assumption | rfl | refine aG_n ?_ rfl rfl)) ?_
    refine wp_cV (pc := 127) dX12_wouldSay_127 lk_12_298 rfl (by decide) rfl (by first | rfl | assumption | exact sh_house (by omega) | exact sh_wish (by omega) | exact sh_wor (by omega) | exact sh_bar (by omega) | exact sh_term (by omega) | exact sh_sheet (by omega) | exact sh_items (by omega) | exact sh_sums (by omega)) rfl rfl ?_
    refine c_aw (o64 hta htb) htd rfl hA (aK_i ?_)
    refine wp_isub (pc := 130) dX12_wouldSay_130 ?_
    refine wp_iload (pc := 131) dX12_wouldSay_131 (by first | rfl | assumption | (repeat first | assumption | rfl | refine aG_n ?_ rfl rfl)) ?_
    refine wp_iload (pc := 133) dX12_wouldSay_133 (by first | rfl | assumption | (repeat first | assumption | rfl | refine aG_n ?_ rfl rfl)) ?_
    refine wp_imul (pc := 135) dX12_wouldSay_135 ?_
    refine wp_iadd (pc := 136) dX12_wouldSay_136 ?_
    refine wp_istore (pc := 137) dX12_wouldSay_137 (by decide) ?_
    skip
    rw [egn]
    exact l_ws139 hW hL hd hpl hA hlv hsg cO rfl e2 rfl rfl kt kf _ (by first | rfl | assumption | (repeat first | assumption | rfl | refine aG_n ?_ rfl rfl)) (by first | rfl | assumption | (repeat first | assumption | rfl | refine aG_n ?_ rfl rfl)) (by first | rfl | assumption | (repeat first | assumption | rfl | refine aG_n ?_ rfl rfl)) (by first | rfl | assumption | (repeat first | assumption | rfl | refine aG_n ?_ rfl rfl)) (by first | rfl | assumption | (repeat first | assumption | rfl | refine aG_n ?_ rfl rfl)) (by first | rfl | assumption | (repeat first | assumption | rfl | refine aG_n ?_ rfl rfl)) (by first | rfl | assumption | (repeat first | assumption | rfl | refine aG_n ?_ rfl rfl)) (by first | rfl | assumption | (repeat first | assumption | rfl | refine aG_n ?_ rfl rfl)) (by first | rfl | assumption | (repeat first | assumption | rfl | refine aG_n ?_ rfl rfl)) (by first | rfl | assumption | (repeat first | assumption | rfl | refine aG_n ?_ rfl rfl)) (by first | rfl | assumption | (repeat first | assumption | rfl | refine aG_n ?_ rfl rfl))
  · refine wp_aload_n (pc := 87) dX12_wouldSay_87 (by first | rfl | assumption | (repeat first | assumption | rfl | refine aG_n ?_ rfl rfl)) ?_
    refine wp_iload_n (pc := 88) dX12_wouldSay_88 (by first | rfl | assumption | (repeat first | assumption | rfl | refine aG_n ?_ rfl rfl)) ?_
    refine wp_iconst (pc := 89) (v := 1) dX12_wouldSay_89 (by decide) ?_
    refine wp_isub (pc := 90) dX12_wouldSay_90 ?_
    refine wp_cV (pc := 91) dX12_wouldSay_91 lk_12_266 rfl (by decide) rfl (by first | rfl | assumption | exact sh_house (by omega) | exact sh_wish (by omega) | exact sh_wor (by omega) | exact sh_bar (by omega) | exact sh_term (by omega) | exact sh_sheet (by omega) | exact sh_items (by omega) | exact sh_sums (by omega)) rfl rfl (c_X12_isOffer hw l32 (fun q => absurd q (fun z => cO ((ofW_p hw (Nat.le_of_lt hpl)).mp z))) (fun _ => aK_i ?_))
    refine wp_if_eq (pc := 94) (tgt := 235) dX12_wouldSay_94 rfl (fun _ => ?_) (fun q => absurd q (by decide))
    exact l_ws235 hL hd hpl hA hlv hsg (fun z => cO z.1) kt kf _ (by first | rfl | assumption | (repeat first | assumption | rfl | refine aG_n ?_ rfl rfl)) (by first | rfl | assumption | (repeat first | assumption | rfl | refine aG_n ?_ rfl rfl)) (by first | rfl | assumption | (repeat first | assumption | rfl | refine aG_n ?_ rfl rfl)) (by first | rfl | assumption | (repeat first | assumption | rfl | refine aG_n ?_ rfl rfl)) (by first | rfl | assumption | (repeat first | assumption | rfl | refine aG_n ?_ rfl rfl)) (by first | rfl | assumption | (repeat first | assumption | rfl | refine aG_n ?_ rfl rfl))
theorem c_X12_wouldSay (hW : I_wish μ.1) (hL : LK μ.1 R a b w ta tb) (hd : d < 2) (hpl : pl < w) (hA : AS μ.1 (ta ||| tb) c) (kt : GW μ.1 a b ta tb d c pl → ∀ μ', offM μ μ' → Q (some (.int 1)) μ') (kf : ¬ GW μ.1 a b ta tb d c pl → ∀ μ', offM μ μ' → Q (some (.int 0)) μ') : WP X mX12_wouldSay 0 (lv_args 0 [.ref 86, .int (nI (two a b d)), .int (nI pl)]) [] μ Q := by
  obtain ⟨⟨ha, hb, hab⟩, ⟨-, kp2, -, kp4⟩, ⟨hw, l31, l32⟩, ⟨hta, htb⟩, ⟨l51, l52, l53, l54⟩, -⟩ := id hL
  have hh : two a b d < 4 := two_lt ha hb
  have ed : nI pl / 2 = nI (pl / 2) := pk_div (d := 2) (by omega) (by decide) (by decide)
  obtain rfl | rfl : d = 0 ∨ d = 1 := by omega
  · refine wp_iload_n (pc := 0) dX12_wouldSay_0 (by first | rfl | assumption | (repeat first | assumption | rfl | refine aG_n ?_ rfl rfl)) ?_
    refine wp_aload_n (pc := 1) dX12_wouldSay_1 (by first | rfl | assumption | (repeat first | assumption | rfl | refine aG_n ?_ rfl rfl)) ?_
    refine wp_getI (pc := 2) dX12_wouldSay_2 fl_12_235 (by first | rfl | assumption | exact sh_house (by omega) | exact sh_wish (by omega) | exact sh_wor (by omega) | exact sh_bar (by omega) | exact sh_term (by omega) | exact sh_sheet (by omega) | exact sh_items (by omega) | exact sh_sums (by omega)) rfl ?_
    refine wp_icmp_ne (pc := 5) (tgt := 15) dX12_wouldSay_5 rfl (fun q => absurd kp2.symm q) (fun _ => ?_)
    refine wp_aload_n (pc := 8) dX12_wouldSay_8 (by first | rfl | assumption | (repeat first | assumption | rfl | refine aG_n ?_ rfl rfl)) ?_
    refine wp_getI (pc := 9) dX12_wouldSay_9 fl_12_247 (by first | rfl | assumption | exact sh_house (by omega) | exact sh_wish (by omega) | exact sh_wor (by omega) | exact sh_bar (by omega) | exact sh_term (by omega) | exact sh_sheet (by omega) | exact sh_items (by omega) | exact sh_sums (by omega)) rfl ?_
    refine wp_goto (pc := 12) (tgt := 19) dX12_wouldSay_12 rfl ?_
    refine wp_istore_n (pc := 19) dX12_wouldSay_19 (by decide) ?_
    refine wp_iload_n (pc := 20) dX12_wouldSay_20 (by first | rfl | assumption | (repeat first | assumption | rfl | refine aG_n ?_ rfl rfl)) ?_
    refine wp_aload_n (pc := 21) dX12_wouldSay_21 (by first | rfl | assumption | (repeat first | assumption | rfl | refine aG_n ?_ rfl rfl)) ?_
    refine wp_getI (pc := 22) dX12_wouldSay_22 fl_12_235 (by first | rfl | assumption | exact sh_house (by omega) | exact sh_wish (by omega) | exact sh_wor (by omega) | exact sh_bar (by omega) | exact sh_term (by omega) | exact sh_sheet (by omega) | exact sh_items (by omega) | exact sh_sums (by omega)) rfl ?_
    refine wp_icmp_ne (pc := 25) (tgt := 35) dX12_wouldSay_25 rfl (fun q => absurd kp2.symm q) (fun _ => ?_)
    refine wp_aload_n (pc := 28) dX12_wouldSay_28 (by first | rfl | assumption | (repeat first | assumption | rfl | refine aG_n ?_ rfl rfl)) ?_
    refine wp_getI (pc := 29) dX12_wouldSay_29 fl_12_250 (by first | rfl | assumption | exact sh_house (by omega) | exact sh_wish (by omega) | exact sh_wor (by omega) | exact sh_bar (by omega) | exact sh_term (by omega) | exact sh_sheet (by omega) | exact sh_items (by omega) | exact sh_sums (by omega)) rfl ?_
    refine wp_goto (pc := 32) (tgt := 39) dX12_wouldSay_32 rfl ?_
    refine wp_istore (pc := 39) dX12_wouldSay_39 (by decide) ?_
    refine wp_iload_n (pc := 41) dX12_wouldSay_41 (by first | rfl | assumption | (repeat first | assumption | rfl | refine aG_n ?_ rfl rfl)) ?_
    refine wp_aload_n (pc := 42) dX12_wouldSay_42 (by first | rfl | assumption | (repeat first | assumption | rfl | refine aG_n ?_ rfl rfl)) ?_
    refine wp_getI (pc := 43) dX12_wouldSay_43 fl_12_235 (by first | rfl | assumption | exact sh_house (by omega) | exact sh_wish (by omega) | exact sh_wor (by omega) | exact sh_bar (by omega) | exact sh_term (by omega) | exact sh_sheet (by omega) | exact sh_items (by omega) | exact sh_sums (by omega)) rfl ?_
    refine wp_icmp_ne (pc := 46) (tgt := 56) dX12_wouldSay_46 rfl (fun q => absurd kp2.symm q) (fun _ => ?_)
    refine wp_aload_n (pc := 49) dX12_wouldSay_49 (by first | rfl | assumption | (repeat first | assumption | rfl | refine aG_n ?_ rfl rfl)) ?_
    refine wp_getI (pc := 50) dX12_wouldSay_50 fl_12_238 (by first | rfl | assumption | exact sh_house (by omega) | exact sh_wish (by omega) | exact sh_wor (by omega) | exact sh_bar (by omega) | exact sh_term (by omega) | exact sh_sheet (by omega) | exact sh_items (by omega) | exact sh_sums (by omega)) rfl ?_
    refine wp_goto (pc := 53) (tgt := 60) dX12_wouldSay_53 rfl ?_
    refine wp_istore (pc := 60) dX12_wouldSay_60 (by decide) ?_
    refine wp_aload_n (pc := 62) dX12_wouldSay_62 (by first | rfl | assumption | (repeat first | assumption | rfl | refine aG_n ?_ rfl rfl)) ?_
    refine wp_iload_n (pc := 63) dX12_wouldSay_63 (by first | rfl | assumption | (repeat first | assumption | rfl | refine aG_n ?_ rfl rfl)) ?_
    refine wp_iload_n (pc := 64) dX12_wouldSay_64 (by first | rfl | assumption | (repeat first | assumption | rfl | refine aG_n ?_ rfl rfl)) ?_
    refine wp_iconst (pc := 65) (v := 2) dX12_wouldSay_65 (by decide) ?_
    refine wp_idiv (pc := 66) dX12_wouldSay_66 (by decide) ?_
    refine wp_cV (pc := 67) dX12_wouldSay_67 lk_12_285 rfl (by decide) rfl (by first | rfl | assumption | exact sh_house (by omega) | exact sh_wish (by omega) | exact sh_wor (by omega) | exact sh_bar (by omega) | exact sh_term (by omega) | exact sh_sheet (by omega) | exact sh_items (by omega) | exact sh_sums (by omega)) rfl rfl ?_
    rw [ed]
    refine c_X12_levelOf hh (aK_i ?_)
    refine wp_istore (pc := 70) dX12_wouldSay_70 (by decide) ?_
    refine wp_iload_n (pc := 72) dX12_wouldSay_72 (by first | rfl | assumption | (repeat first | assumption | rfl | refine aG_n ?_ rfl rfl)) ?_
    refine wp_aload_n (pc := 73) dX12_wouldSay_73 (by first | rfl | assumption | (repeat first | assumption | rfl | refine aG_n ?_ rfl rfl)) ?_
    refine wp_getI (pc := 74) dX12_wouldSay_74 fl_12_235 (by first | rfl | assumption | exact sh_house (by omega) | exact sh_wish (by omega) | exact sh_wor (by omega) | exact sh_bar (by omega) | exact sh_term (by omega) | exact sh_sheet (by omega) | exact sh_items (by omega) | exact sh_sums (by omega)) rfl ?_
    refine wp_icmp_ne (pc := 77) (tgt := 84) dX12_wouldSay_77 rfl (fun q => absurd kp2.symm q) (fun _ => ?_)
    refine wp_iconst (pc := 80) (v := -1) dX12_wouldSay_80 (by decide) ?_
    refine wp_goto (pc := 81) (tgt := 85) dX12_wouldSay_81 rfl ?_
    refine wp_istore (pc := 85) dX12_wouldSay_85 (by decide) ?_
    skip
    rw [l51, l52, kp4]
    exact l_ws87 (d := 0) (sg := -1) hW hL (by decide) hpl hA rfl (Or.inl ⟨rfl, rfl⟩) kt kf _ (by first | rfl | assumption | (repeat first | assumption | rfl | refine aG_n ?_ rfl rfl)) (by first | rfl | assumption | (repeat first | assumption | rfl | refine aG_n ?_ rfl rfl)) (by first | rfl | assumption | (repeat first | assumption | rfl | refine aG_n ?_ rfl rfl)) (by first | rfl | assumption | (repeat first | assumption | rfl | refine aG_n ?_ rfl rfl)) (by first | rfl | assumption | (repeat first | assumption | rfl | refine aG_n ?_ rfl rfl)) (by first | rfl | assumption | (repeat first | assumption | rfl | refine aG_n ?_ rfl rfl)) (by first | rfl | assumption | (repeat first | assumption | rfl | refine aG_n ?_ rfl rfl)) (by first | rfl | assumption | (repeat first | assumption | rfl | refine aG_n ?_ rfl rfl))
  · have nab : ¬ nI (two a b 1) = μ.1 86 16 := by rw [kp2, show two a b 1 = b from rfl, nI_eq (by omega) (by omega)]; exact fun z => hab z.symm
    refine wp_iload_n (pc := 0) dX12_wouldSay_0 (by first | rfl | assumption | (repeat first | assumption | rfl | refine aG_n ?_ rfl rfl)) ?_
    refine wp_aload_n (pc := 1) dX12_wouldSay_1 (by first | rfl | assumption | (repeat first | assumption | rfl | refine aG_n ?_ rfl rfl)) ?_
    refine wp_getI (pc := 2) dX12_wouldSay_2 fl_12_235 (by first | rfl | assumption | exact sh_house (by omega) | exact sh_wish (by omega) | exact sh_wor (by omega) | exact sh_bar (by omega) | exact sh_term (by omega) | exact sh_sheet (by omega) | exact sh_items (by omega) | exact sh_sums (by omega)) rfl ?_
    refine wp_icmp_ne (pc := 5) (tgt := 15) dX12_wouldSay_5 rfl (fun _ => ?_) (fun q => absurd q nab)
    refine wp_aload_n (pc := 15) dX12_wouldSay_15 (by first | rfl | assumption | (repeat first | assumption | rfl | refine aG_n ?_ rfl rfl)) ?_
    refine wp_getI (pc := 16) dX12_wouldSay_16 fl_12_250 (by first | rfl | assumption | exact sh_house (by omega) | exact sh_wish (by omega) | exact sh_wor (by omega) | exact sh_bar (by omega) | exact sh_term (by omega) | exact sh_sheet (by omega) | exact sh_items (by omega) | exact sh_sums (by omega)) rfl ?_
    refine wp_istore_n (pc := 19) dX12_wouldSay_19 (by decide) ?_
    refine wp_iload_n (pc := 20) dX12_wouldSay_20 (by first | rfl | assumption | (repeat first | assumption | rfl | refine aG_n ?_ rfl rfl)) ?_
    refine wp_aload_n (pc := 21) dX12_wouldSay_21 (by first | rfl | assumption | (repeat first | assumption | rfl | refine aG_n ?_ rfl rfl)) ?_
    refine wp_getI (pc := 22) dX12_wouldSay_22 fl_12_235 (by first | rfl | assumption | exact sh_house (by omega) | exact sh_wish (by omega) | exact sh_wor (by omega) | exact sh_bar (by omega) | exact sh_term (by omega) | exact sh_sheet (by omega) | exact sh_items (by omega) | exact sh_sums (by omega)) rfl ?_
    refine wp_icmp_ne (pc := 25) (tgt := 35) dX12_wouldSay_25 rfl (fun _ => ?_) (fun q => absurd q nab)
    refine wp_aload_n (pc := 35) dX12_wouldSay_35 (by first | rfl | assumption | (repeat first | assumption | rfl | refine aG_n ?_ rfl rfl)) ?_
    refine wp_getI (pc := 36) dX12_wouldSay_36 fl_12_247 (by first | rfl | assumption | exact sh_house (by omega) | exact sh_wish (by omega) | exact sh_wor (by omega) | exact sh_bar (by omega) | exact sh_term (by omega) | exact sh_sheet (by omega) | exact sh_items (by omega) | exact sh_sums (by omega)) rfl ?_
    refine wp_istore (pc := 39) dX12_wouldSay_39 (by decide) ?_
    refine wp_iload_n (pc := 41) dX12_wouldSay_41 (by first | rfl | assumption | (repeat first | assumption | rfl | refine aG_n ?_ rfl rfl)) ?_
    refine wp_aload_n (pc := 42) dX12_wouldSay_42 (by first | rfl | assumption | (repeat first | assumption | rfl | refine aG_n ?_ rfl rfl)) ?_
    refine wp_getI (pc := 43) dX12_wouldSay_43 fl_12_235 (by first | rfl | assumption | exact sh_house (by omega) | exact sh_wish (by omega) | exact sh_wor (by omega) | exact sh_bar (by omega) | exact sh_term (by omega) | exact sh_sheet (by omega) | exact sh_items (by omega) | exact sh_sums (by omega)) rfl ?_
    refine wp_icmp_ne (pc := 46) (tgt := 56) dX12_wouldSay_46 rfl (fun _ => ?_) (fun q => absurd q nab)
    refine wp_aload_n (pc := 56) dX12_wouldSay_56 (by first | rfl | assumption | (repeat first | assumption | rfl | refine aG_n ?_ rfl rfl)) ?_
    refine wp_getI (pc := 57) dX12_wouldSay_57 fl_12_235 (by first | rfl | assumption | exact sh_house (by omega) | exact sh_wish (by omega) | exact sh_wor (by omega) | exact sh_bar (by omega) | exact sh_term (by omega) | exact sh_sheet (by omega) | exact sh_items (by omega) | exact sh_sums (by omega)) rfl ?_
    refine wp_istore (pc := 60) dX12_wouldSay_60 (by decide) ?_
    refine wp_aload_n (pc := 62) dX12_wouldSay_62 (by first | rfl | assumption | (repeat first | assumption | rfl | refine aG_n ?_ rfl rfl)) ?_
    refine wp_iload_n (pc := 63) dX12_wouldSay_63 (by first | rfl | assumption | (repeat first | assumption | rfl | refine aG_n ?_ rfl rfl)) ?_
    refine wp_iload_n (pc := 64) dX12_wouldSay_64 (by first | rfl | assumption | (repeat first | assumption | rfl | refine aG_n ?_ rfl rfl)) ?_
    refine wp_iconst (pc := 65) (v := 2) dX12_wouldSay_65 (by decide) ?_
    refine wp_idiv (pc := 66) dX12_wouldSay_66 (by decide) ?_
    refine wp_cV (pc := 67) dX12_wouldSay_67 lk_12_285 rfl (by decide) rfl (by first | rfl | assumption | exact sh_house (by omega) | exact sh_wish (by omega) | exact sh_wor (by omega) | exact sh_bar (by omega) | exact sh_term (by omega) | exact sh_sheet (by omega) | exact sh_items (by omega) | exact sh_sums (by omega)) rfl rfl ?_
    rw [ed]
    refine c_X12_levelOf hh (aK_i ?_)
    refine wp_istore (pc := 70) dX12_wouldSay_70 (by decide) ?_
    refine wp_iload_n (pc := 72) dX12_wouldSay_72 (by first | rfl | assumption | (repeat first | assumption | rfl | refine aG_n ?_ rfl rfl)) ?_
    refine wp_aload_n (pc := 73) dX12_wouldSay_73 (by first | rfl | assumption | (repeat first | assumption | rfl | refine aG_n ?_ rfl rfl)) ?_
    refine wp_getI (pc := 74) dX12_wouldSay_74 fl_12_235 (by first | rfl | assumption | exact sh_house (by omega) | exact sh_wish (by omega) | exact sh_wor (by omega) | exact sh_bar (by omega) | exact sh_term (by omega) | exact sh_sheet (by omega) | exact sh_items (by omega) | exact sh_sums (by omega)) rfl ?_
    refine wp_icmp_ne (pc := 77) (tgt := 84) dX12_wouldSay_77 rfl (fun _ => ?_) (fun q => absurd q nab)
    refine wp_iconst (pc := 84) (v := 1) dX12_wouldSay_84 (by decide) ?_
    refine wp_istore (pc := 85) dX12_wouldSay_85 (by decide) ?_
    skip
    rw [l51, l52, kp2]
    exact l_ws87 (d := 1) (sg := 1) hW hL (by decide) hpl hA rfl (Or.inr ⟨rfl, rfl⟩) kt kf _ (by first | rfl | assumption | (repeat first | assumption | rfl | refine aG_n ?_ rfl rfl)) (by first | rfl | assumption | (repeat first | assumption | rfl | refine aG_n ?_ rfl rfl)) (by first | rfl | assumption | (repeat first | assumption | rfl | refine aG_n ?_ rfl rfl)) (by first | rfl | assumption | (repeat first | assumption | rfl | refine aG_n ?_ rfl rfl)) (by first | rfl | assumption | (repeat first | assumption | rfl | refine aG_n ?_ rfl rfl)) (by first | rfl | assumption | (repeat first | assumption | rfl | refine aG_n ?_ rfl rfl)) (by first | rfl | assumption | (repeat first | assumption | rfl | refine aG_n ?_ rfl rfl)) (by first | rfl | assumption | (repeat first | assumption | rfl | refine aG_n ?_ rfl rfl))
end WSAY2
theorem offM.toA {μ μ' : Mm} (h : offM μ μ') : offA μ μ' := ⟨fun c j hc => h.1 c j (by omega), h.2⟩
theorem offA.tr {μ μ' μ'' : Mm} (h : offA μ μ') (h' : offA μ' μ'') : offA μ μ'' := ⟨fun c j hc => (h'.1 c j hc).trans (h.1 c j hc), h'.2.trans h.2⟩
theorem offA.row {μ μ' : Mm} (h : offA μ μ') {c : Nat} (hc : ¬ ((103 ≤ c ∧ c ≤ 106) ∨ c = 86)) : μ'.1 c = μ.1 c := funext fun j => h.1 c j (by omega)
theorem offA.wish {μ μ' : Mm} (h : offA μ μ') (hW : I_wish μ.1) : I_wish μ'.1 := wish_c ⟨h.row (by omega), h.row (by omega), h.row (by omega), h.row (by omega)⟩ (fun i hi => ⟨h.row (by omega), h.row (by omega), h.row (by omega)⟩) hW
theorem offA.lk {μ μ' : Mm} {R : Nat → Nat → Nat} {a b w ta tb : Nat} (h : offA μ μ') (hL : LK μ.1 R a b w ta tb) : LK μ'.1 R a b w ta tb := by
  obtain ⟨x1, x2, x3, x4, x5, x6, x7, x8, x9⟩ := hL
  have e86 : ∀ j, ¬ (j = 29 ∨ j = 31) → μ'.1 86 j = μ.1 86 j := fun j hj => h.1 86 j (by omega)
  refine ⟨x1, ?_, ?_, x4, ?_, ?_, x7, fun j hj => ?_, fun j hj => ?_⟩
  · rw [h.row (c := 73) (by omega), e86 16 (by omega), e86 17 (by omega)]; exact x2
  · rw [h.row (c := 73) (by omega), e86 19 (by omega)]; exact x3
  · rw [h.row (c := 74) (by omega), e86 23 (by omega), e86 24 (by omega)]; exact x5
  · rw [h.row (c := 74) (by omega), e86 25 (by omega), e86 26 (by omega)]; exact x6
  · rw [h.row (c := 75) (by omega), h.row (c := 76) (by omega), h.row (c := 77) (by omega), h.row (c := 100) (by omega), h.row (c := 101) (by omega), h.row (c := 102) (by omega)]; exact x8 j hj
  · unfold isOf wu
    rw [h.row (c := 100) (by omega), h.row (c := 101) (by omega), h.row (c := 102) (by omega)]
    exact x9 j hj
theorem offA.gw {μ μ' : Mm} {a b ta tb d c pl : Nat} (h : offA μ μ') (ha : a < 4) (hb : b < 4) : GW μ'.1 a b ta tb d c pl ↔ GW μ.1 a b ta tb d c pl := GW_c ha hb (fun x hx => h.row (by omega)) (h.1 86 25 (by omega)) (h.1 86 26 (by omega))
section LEARNM
variable {X : aX} {μ : Mm} {Q : Option Value → Mm → Prop} {a b w ta tb d c n : Nat} {R : Nat → Nat → Nat} {hv mv av : Int32}
/-- the words of one guess -/
theorem l_wd (hW : I_wish μ.1) (hL : LK μ.1 R a b w ta tb) (hd : d < 2) (hn : ∀ k, k < n → 2 * k + d < w) (hn2 : n < 2 ^ 31) (hA : AS μ.1 (ta ||| tb) c) (hhv : hv = nI (two a b d)) {cv : Int32} (k : ∀ v μ', offA μ μ' → AS μ'.1 (ta ||| tb) c → ((v = 1 ∧ ∀ k, k < n → GW μ.1 a b ta tb d c (2 * k + d)) ∨ (v = 0 ∧ ¬ ∀ k, k < n → GW μ.1 a b ta tb d c (2 * k + d))) → ∀ L : aL, aL_get L 0 = some (.ref 86) → aL_get L 1 = some (.int hv) → aL_get L 3 = some (.int mv) → aL_get L 4 = some (.int av) → aL_get L 5 = some (.int (nI n)) → aL_get L 6 = some (.int cv) → aL_get L 8 = some (.int v) → WP X mX12_learnt 265 L [] μ' Q) : ∀ (f kk : Nat), kk + f = n → (∀ j, j < kk → GW μ.1 a b ta tb d c (2 * j + d)) → ∀ μ', offA μ μ' → AS μ'.1 (ta ||| tb) c → ∀ L : aL, aL_get L 0 = some (.ref 86) → aL_get L 1 = some (.int hv) → aL_get L 3 = some (.int mv) → aL_get L 4 = some (.int av) → aL_get L 5 = some (.int (nI n)) → aL_get L 6 = some (.int cv) → aL_get L 8 = some (.int 1) → aL_get L 9 = some (.int (nI kk)) → WP X mX12_learnt 219 L [] μ' Q
  | 0, kk, hk, hC, μ', ho, hA', L, g0, g1, g3, g4, g5, g6, g8, g9 => by
    obtain rfl : kk = n := by omega
    refine wp_iload (pc := 219) dX12_learnt_219 (by first | rfl | assumption | (repeat first | assumption | rfl | refine aG_n ?_ rfl rfl)) ?_
    refine wp_iload (pc := 221) dX12_learnt_221 (by first | rfl | assumption | (repeat first | assumption | rfl | refine aG_n ?_ rfl rfl)) ?_
    refine wp_icmp_ge (pc := 223) (tgt := 265) dX12_learnt_223 rfl (fun _ => ?_) (fun q => absurd (nI_le (by omega) (by omega)) q)
    exact k 1 _ ho hA' (Or.inl ⟨rfl, hC⟩) _ g0 g1 g3 g4 g5 g6 g8
  | f + 1, kk, hk, hC, μ', ho, hA', L, g0, g1, g3, g4, g5, g6, g8, g9 => by
    obtain ⟨⟨ha, hb, hab⟩, ⟨-, kp2, -, kp4⟩, ⟨hw, l31, l32⟩, -⟩ := id hL
    have hpl := hn kk (by omega)
    have hL' := ho.lk hL
    have hW' := ho.wish hW
    have e16 : μ'.1 86 16 = nI a := by rw [ho.1 86 16 (by omega)]; exact kp2
    have egw := ho.gw (ta := ta) (tb := tb) (d := d) (c := c) (pl := 2 * kk + d) ha hb
    have stop : ∀ μ3 : Mm, offA μ μ3 → AS μ3.1 (ta ||| tb) c → (¬ ∀ k, k < n → GW μ.1 a b ta tb d c (2 * k + d)) → ∀ L : aL, aL_get L 0 = some (.ref 86) → aL_get L 1 = some (.int hv) → aL_get L 3 = some (.int mv) → aL_get L 4 = some (.int av) → aL_get L 5 = some (.int (nI n)) → aL_get L 6 = some (.int cv) → aL_get L 8 = some (.int 0) → ∀ x, aL_get L 9 = some (.int x) → WP X mX12_learnt 219 L [] μ3 Q := by
      intro μ3 o3 hA3 hno L g0 g1 g3 g4 g5 g6 g8 x g9
      refine wp_iload (pc := 219) dX12_learnt_219 (by first | rfl | assumption | (repeat first | assumption | rfl | refine aG_n ?_ rfl rfl)) ?_
      refine wp_iload (pc := 221) dX12_learnt_221 (by first | rfl | assumption | (repeat first | assumption | rfl | refine aG_n ?_ rfl rfl)) ?_
      refine wp_icmp_ge (pc := 223) (tgt := 265) dX12_learnt_223 rfl (fun c223_1 => ?_) (fun c223_1 => ?_)
      · exact k 0 _ o3 hA3 (Or.inr ⟨rfl, hno⟩) _ g0 g1 g3 g4 g5 g6 g8
      · refine wp_iload (pc := 226) dX12_learnt_226 (by first | rfl | assumption | (repeat first | assumption | rfl | refine aG_n ?_ rfl rfl)) ?_
        refine wp_if_eq (pc := 228) (tgt := 265) dX12_learnt_228 rfl (fun _ => ?_) (fun q => absurd rfl q)
        exact k 0 _ o3 hA3 (Or.inr ⟨rfl, hno⟩) _ g0 g1 g3 g4 g5 g6 g8

    obtain hdd | hdd : d = 0 ∨ d = 1 := by omega
    · have epl : (2 : Int32) * nI kk = nI (2 * kk + d) := by rw [hdd, show (2 : Int32) = nI 2 from rfl, pk_mul]; rfl
      by_cases cg : GW μ.1 a b ta tb d c (2 * kk + d)
      · refine wp_iload (pc := 219) dX12_learnt_219 (by first | rfl | assumption | (repeat first | assumption | rfl | refine aG_n ?_ rfl rfl)) ?_
        refine wp_iload (pc := 221) dX12_learnt_221 (by first | rfl | assumption | (repeat first | assumption | rfl | refine aG_n ?_ rfl rfl)) ?_
        refine wp_icmp_ge (pc := 223) (tgt := 265) dX12_learnt_223 rfl (fun q => absurd q (nI_ge (by omega) hn2)) (fun _ => ?_)
        refine wp_iload (pc := 226) dX12_learnt_226 (by first | rfl | assumption | (repeat first | assumption | rfl | refine aG_n ?_ rfl rfl)) ?_
        refine wp_if_eq (pc := 228) (tgt := 265) dX12_learnt_228 rfl (fun q => absurd q (by decide)) (fun _ => ?_)
        refine wp_aload_n (pc := 231) dX12_learnt_231 (by first | rfl | assumption | (repeat first | assumption | rfl | refine aG_n ?_ rfl rfl)) ?_
        refine wp_iload_n (pc := 232) dX12_learnt_232 (by first | rfl | assumption | (repeat first | assumption | rfl | refine aG_n ?_ rfl rfl)) ?_
        refine wp_iload_n (pc := 233) dX12_learnt_233 (by first | rfl | assumption | (repeat first | assumption | rfl | refine aG_n ?_ rfl rfl)) ?_
        refine wp_aload_n (pc := 234) dX12_learnt_234 (by first | rfl | assumption | (repeat first | assumption | rfl | refine aG_n ?_ rfl rfl)) ?_
        refine wp_getI (pc := 235) dX12_learnt_235 fl_12_235 (by first | rfl | assumption | exact sh_house (by omega) | exact sh_wish (by omega) | exact sh_wor (by omega) | exact sh_bar (by omega) | exact sh_term (by omega) | exact sh_sheet (by omega) | exact sh_items (by omega) | exact sh_sums (by omega)) rfl ?_
        refine wp_icmp_ne (pc := 238) (tgt := 248) dX12_learnt_238 rfl (fun q => absurd (by rw [hhv, hdd, e16]; rfl) q) (fun _ => ?_)
        refine wp_iconst (pc := 241) (v := 2) dX12_learnt_241 (by decide) ?_
        refine wp_iload (pc := 242) dX12_learnt_242 (by first | rfl | assumption | (repeat first | assumption | rfl | refine aG_n ?_ rfl rfl)) ?_
        refine wp_imul (pc := 244) dX12_learnt_244 ?_
        refine wp_goto (pc := 245) (tgt := 254) dX12_learnt_245 rfl ?_
        refine wp_cV (pc := 254) dX12_learnt_254 lk_12_304 rfl (by decide) rfl (by first | rfl | assumption | exact sh_house (by omega) | exact sh_wish (by omega) | exact sh_wor (by omega) | exact sh_bar (by omega) | exact sh_term (by omega) | exact sh_sheet (by omega) | exact sh_items (by omega) | exact sh_sums (by omega)) rfl rfl ?_
        rw [epl, hhv]
        refine c_X12_wouldSay (d := d) hW' hL' hd hpl hA' (fun _ μ3 o3 => aK_i ?_) (fun z => absurd (egw.mpr cg) z)
        refine wp_istore (pc := 257) dX12_learnt_257 (by decide) ?_
        refine wp_iinc (pc := 259) dX12_learnt_259 (by decide) (by first | rfl | assumption | (repeat first | assumption | rfl | refine aG_n ?_ rfl rfl)) rfl ?_
        refine wp_goto (pc := 262) (tgt := 219) dX12_learnt_262 rfl ?_
        exact l_wd hW hL hd hn hn2 hA hhv k f (kk + 1) (by omega) (fun j hj => if e : j = kk then e ▸ cg else hC j (by omega)) _ (ho.tr o3.toA) (o3.as hA') _ (by first | rfl | assumption | (repeat first | assumption | rfl | refine aG_n ?_ rfl rfl)) (by first | rfl | assumption | (repeat first | assumption | rfl | refine aG_n ?_ rfl rfl)) (by first | rfl | assumption | (repeat first | assumption | rfl | refine aG_n ?_ rfl rfl)) (by first | rfl | assumption | (repeat first | assumption | rfl | refine aG_n ?_ rfl rfl)) (by first | rfl | assumption | (repeat first | assumption | rfl | refine aG_n ?_ rfl rfl)) (by first | rfl | assumption | (repeat first | assumption | rfl | refine aG_n ?_ rfl rfl)) (by first | rfl | assumption | (repeat first | assumption | rfl | refine aG_n ?_ rfl rfl)) (by rw [← nI_i1]; first | rfl | assumption | (repeat first | assumption | rfl | refine aG_n ?_ rfl rfl))
      · refine wp_iload (pc := 219) dX12_learnt_219 (by first | rfl | assumption | (repeat first | assumption | rfl | refine aG_n ?_ rfl rfl)) ?_
        refine wp_iload (pc := 221) dX12_learnt_221 (by first | rfl | assumption | (repeat first | assumption | rfl | refine aG_n ?_ rfl rfl)) ?_
        refine wp_icmp_ge (pc := 223) (tgt := 265) dX12_learnt_223 rfl (fun q => absurd q (nI_ge (by omega) hn2)) (fun _ => ?_)
        refine wp_iload (pc := 226) dX12_learnt_226 (by first | rfl | assumption | (repeat first | assumption | rfl | refine aG_n ?_ rfl rfl)) ?_
        refine wp_if_eq (pc := 228) (tgt := 265) dX12_learnt_228 rfl (fun q => absurd q (by decide)) (fun _ => ?_)
        refine wp_aload_n (pc := 231) dX12_learnt_231 (by first | rfl | assumption | (repeat first | assumption | rfl | refine aG_n ?_ rfl rfl)) ?_
        refine wp_iload_n (pc := 232) dX12_learnt_232 (by first | rfl | assumption | (repeat first | assumption | rfl | refine aG_n ?_ rfl rfl)) ?_
        refine wp_iload_n (pc := 233) dX12_learnt_233 (by first | rfl | assumption | (repeat first | assumption | rfl | refine aG_n ?_ rfl rfl)) ?_
        refine wp_aload_n (pc := 234) dX12_learnt_234 (by first | rfl | assumption | (repeat first | assumption | rfl | refine aG_n ?_ rfl rfl)) ?_
        refine wp_getI (pc := 235) dX12_learnt_235 fl_12_235 (by first | rfl | assumption | exact sh_house (by omega) | exact sh_wish (by omega) | exact sh_wor (by omega) | exact sh_bar (by omega) | exact sh_term (by omega) | exact sh_sheet (by omega) | exact sh_items (by omega) | exact sh_sums (by omega)) rfl ?_
        refine wp_icmp_ne (pc := 238) (tgt := 248) dX12_learnt_238 rfl (fun q => absurd (by rw [hhv, hdd, e16]; rfl) q) (fun _ => ?_)
        refine wp_iconst (pc := 241) (v := 2) dX12_learnt_241 (by decide) ?_
        refine wp_iload (pc := 242) dX12_learnt_242 (by first | rfl | assumption | (repeat first | assumption | rfl | refine aG_n ?_ rfl rfl)) ?_
        refine wp_imul (pc := 244) dX12_learnt_244 ?_
        refine wp_goto (pc := 245) (tgt := 254) dX12_learnt_245 rfl ?_
        refine wp_cV (pc := 254) dX12_learnt_254 lk_12_304 rfl (by decide) rfl (by first | rfl | assumption | exact sh_house (by omega) | exact sh_wish (by omega) | exact sh_wor (by omega) | exact sh_bar (by omega) | exact sh_term (by omega) | exact sh_sheet (by omega) | exact sh_items (by omega) | exact sh_sums (by omega)) rfl rfl ?_
        rw [epl, hhv]
        refine c_X12_wouldSay (d := d) hW' hL' hd hpl hA' (fun z => absurd (egw.mp z) cg) (fun _ μ3 o3 => aK_i ?_)
        refine wp_istore (pc := 257) dX12_learnt_257 (by decide) ?_
        refine wp_iinc (pc := 259) dX12_learnt_259 (by decide) (by first | rfl | assumption | (repeat first | assumption | rfl | refine aG_n ?_ rfl rfl)) rfl ?_
        refine wp_goto (pc := 262) (tgt := 219) dX12_learnt_262 rfl ?_
        exact stop _ (ho.tr o3.toA) (o3.as hA') (fun z => cg (z kk (by omega))) _ (by first | rfl | assumption | (repeat first | assumption | rfl | refine aG_n ?_ rfl rfl)) (by first | rfl | assumption | (repeat first | assumption | rfl | refine aG_n ?_ rfl rfl)) (by first | rfl | assumption | (repeat first | assumption | rfl | refine aG_n ?_ rfl rfl)) (by first | rfl | assumption | (repeat first | assumption | rfl | refine aG_n ?_ rfl rfl)) (by first | rfl | assumption | (repeat first | assumption | rfl | refine aG_n ?_ rfl rfl)) (by first | rfl | assumption | (repeat first | assumption | rfl | refine aG_n ?_ rfl rfl)) (by first | rfl | assumption | (repeat first | assumption | rfl | refine aG_n ?_ rfl rfl)) _ (by first | rfl | assumption | (repeat first | assumption | rfl | refine aG_n ?_ rfl rfl))
    · have epl : (2 : Int32) * nI kk + 1 = nI (2 * kk + d) := by rw [hdd, show (2 : Int32) = nI 2 from rfl, pk_mul, nI_1]
      by_cases cg : GW μ.1 a b ta tb d c (2 * kk + d)
      · refine wp_iload (pc := 219) dX12_learnt_219 (by first | rfl | assumption | (repeat first | assumption | rfl | refine aG_n ?_ rfl rfl)) ?_
        refine wp_iload (pc := 221) dX12_learnt_221 (by first | rfl | assumption | (repeat first | assumption | rfl | refine aG_n ?_ rfl rfl)) ?_
        refine wp_icmp_ge (pc := 223) (tgt := 265) dX12_learnt_223 rfl (fun q => absurd q (nI_ge (by omega) hn2)) (fun _ => ?_)
        refine wp_iload (pc := 226) dX12_learnt_226 (by first | rfl | assumption | (repeat first | assumption | rfl | refine aG_n ?_ rfl rfl)) ?_
        refine wp_if_eq (pc := 228) (tgt := 265) dX12_learnt_228 rfl (fun q => absurd q (by decide)) (fun _ => ?_)
        refine wp_aload_n (pc := 231) dX12_learnt_231 (by first | rfl | assumption | (repeat first | assumption | rfl | refine aG_n ?_ rfl rfl)) ?_
        refine wp_iload_n (pc := 232) dX12_learnt_232 (by first | rfl | assumption | (repeat first | assumption | rfl | refine aG_n ?_ rfl rfl)) ?_
        refine wp_iload_n (pc := 233) dX12_learnt_233 (by first | rfl | assumption | (repeat first | assumption | rfl | refine aG_n ?_ rfl rfl)) ?_
        refine wp_aload_n (pc := 234) dX12_learnt_234 (by first | rfl | assumption | (repeat first | assumption | rfl | refine aG_n ?_ rfl rfl)) ?_
        refine wp_getI (pc := 235) dX12_learnt_235 fl_12_235 (by first | rfl | assumption | exact sh_house (by omega) | exact sh_wish (by omega) | exact sh_wor (by omega) | exact sh_bar (by omega) | exact sh_term (by omega) | exact sh_sheet (by omega) | exact sh_items (by omega) | exact sh_sums (by omega)) rfl ?_
        refine wp_icmp_ne (pc := 238) (tgt := 248) dX12_learnt_238 rfl (fun _ => ?_) (fun q => absurd q (by rw [hhv, hdd, e16, show two a b 1 = b from rfl, nI_eq (by omega) (by omega)]; exact fun z => hab z.symm))
        refine wp_iconst (pc := 248) (v := 2) dX12_learnt_248 (by decide) ?_
        refine wp_iload (pc := 249) dX12_learnt_249 (by first | rfl | assumption | (repeat first | assumption | rfl | refine aG_n ?_ rfl rfl)) ?_
        refine wp_imul (pc := 251) dX12_learnt_251 ?_
        refine wp_iconst (pc := 252) (v := 1) dX12_learnt_252 (by decide) ?_
        refine wp_iadd (pc := 253) dX12_learnt_253 ?_
        refine wp_cV (pc := 254) dX12_learnt_254 lk_12_304 rfl (by decide) rfl (by first | rfl | assumption | exact sh_house (by omega) | exact sh_wish (by omega) | exact sh_wor (by omega) | exact sh_bar (by omega) | exact sh_term (by omega) | exact sh_sheet (by omega) | exact sh_items (by omega) | exact sh_sums (by omega)) rfl rfl ?_
        rw [epl, hhv]
        refine c_X12_wouldSay (d := d) hW' hL' hd hpl hA' (fun _ μ3 o3 => aK_i ?_) (fun z => absurd (egw.mpr cg) z)
        refine wp_istore (pc := 257) dX12_learnt_257 (by decide) ?_
        refine wp_iinc (pc := 259) dX12_learnt_259 (by decide) (by first | rfl | assumption | (repeat first | assumption | rfl | refine aG_n ?_ rfl rfl)) rfl ?_
        refine wp_goto (pc := 262) (tgt := 219) dX12_learnt_262 rfl ?_
        exact l_wd hW hL hd hn hn2 hA hhv k f (kk + 1) (by omega) (fun j hj => if e : j = kk then e ▸ cg else hC j (by omega)) _ (ho.tr o3.toA) (o3.as hA') _ (by first | rfl | assumption | (repeat first | assumption | rfl | refine aG_n ?_ rfl rfl)) (by first | rfl | assumption | (repeat first | assumption | rfl | refine aG_n ?_ rfl rfl)) (by first | rfl | assumption | (repeat first | assumption | rfl | refine aG_n ?_ rfl rfl)) (by first | rfl | assumption | (repeat first | assumption | rfl | refine aG_n ?_ rfl rfl)) (by first | rfl | assumption | (repeat first | assumption | rfl | refine aG_n ?_ rfl rfl)) (by first | rfl | assumption | (repeat first | assumption | rfl | refine aG_n ?_ rfl rfl)) (by first | rfl | assumption | (repeat first | assumption | rfl | refine aG_n ?_ rfl rfl)) (by rw [← nI_i1]; first | rfl | assumption | (repeat first | assumption | rfl | refine aG_n ?_ rfl rfl))
      · refine wp_iload (pc := 219) dX12_learnt_219 (by first | rfl | assumption | (repeat first | assumption | rfl | refine aG_n ?_ rfl rfl)) ?_
        refine wp_iload (pc := 221) dX12_learnt_221 (by first | rfl | assumption | (repeat first | assumption | rfl | refine aG_n ?_ rfl rfl)) ?_
        refine wp_icmp_ge (pc := 223) (tgt := 265) dX12_learnt_223 rfl (fun q => absurd q (nI_ge (by omega) hn2)) (fun _ => ?_)
        refine wp_iload (pc := 226) dX12_learnt_226 (by first | rfl | assumption | (repeat first | assumption | rfl | refine aG_n ?_ rfl rfl)) ?_
        refine wp_if_eq (pc := 228) (tgt := 265) dX12_learnt_228 rfl (fun q => absurd q (by decide)) (fun _ => ?_)
        refine wp_aload_n (pc := 231) dX12_learnt_231 (by first | rfl | assumption | (repeat first | assumption | rfl | refine aG_n ?_ rfl rfl)) ?_
        refine wp_iload_n (pc := 232) dX12_learnt_232 (by first | rfl | assumption | (repeat first | assumption | rfl | refine aG_n ?_ rfl rfl)) ?_
        refine wp_iload_n (pc := 233) dX12_learnt_233 (by first | rfl | assumption | (repeat first | assumption | rfl | refine aG_n ?_ rfl rfl)) ?_
        refine wp_aload_n (pc := 234) dX12_learnt_234 (by first | rfl | assumption | (repeat first | assumption | rfl | refine aG_n ?_ rfl rfl)) ?_
        refine wp_getI (pc := 235) dX12_learnt_235 fl_12_235 (by first | rfl | assumption | exact sh_house (by omega) | exact sh_wish (by omega) | exact sh_wor (by omega) | exact sh_bar (by omega) | exact sh_term (by omega) | exact sh_sheet (by omega) | exact sh_items (by omega) | exact sh_sums (by omega)) rfl ?_
        refine wp_icmp_ne (pc := 238) (tgt := 248) dX12_learnt_238 rfl (fun _ => ?_) (fun q => absurd q (by rw [hhv, hdd, e16, show two a b 1 = b from rfl, nI_eq (by omega) (by omega)]; exact fun z => hab z.symm))
        refine wp_iconst (pc := 248) (v := 2) dX12_learnt_248 (by decide) ?_
        refine wp_iload (pc := 249) dX12_learnt_249 (by first | rfl | assumption | (repeat first | assumption | rfl | refine aG_n ?_ rfl rfl)) ?_
        refine wp_imul (pc := 251) dX12_learnt_251 ?_
        refine wp_iconst (pc := 252) (v := 1) dX12_learnt_252 (by decide) ?_
        refine wp_iadd (pc := 253) dX12_learnt_253 ?_
        refine wp_cV (pc := 254) dX12_learnt_254 lk_12_304 rfl (by decide) rfl (by first | rfl | assumption | exact sh_house (by omega) | exact sh_wish (by omega) | exact sh_wor (by omega) | exact sh_bar (by omega) | exact sh_term (by omega) | exact sh_sheet (by omega) | exact sh_items (by omega) | exact sh_sums (by omega)) rfl rfl ?_
        rw [epl, hhv]
        refine c_X12_wouldSay (d := d) hW' hL' hd hpl hA' (fun z => absurd (egw.mp z) cg) (fun _ μ3 o3 => aK_i ?_)
        refine wp_istore (pc := 257) dX12_learnt_257 (by decide) ?_
        refine wp_iinc (pc := 259) dX12_learnt_259 (by decide) (by first | rfl | assumption | (repeat first | assumption | rfl | refine aG_n ?_ rfl rfl)) rfl ?_
        refine wp_goto (pc := 262) (tgt := 219) dX12_learnt_262 rfl ?_
        exact stop _ (ho.tr o3.toA) (o3.as hA') (fun z => cg (z kk (by omega))) _ (by first | rfl | assumption | (repeat first | assumption | rfl | refine aG_n ?_ rfl rfl)) (by first | rfl | assumption | (repeat first | assumption | rfl | refine aG_n ?_ rfl rfl)) (by first | rfl | assumption | (repeat first | assumption | rfl | refine aG_n ?_ rfl rfl)) (by first | rfl | assumption | (repeat first | assumption | rfl | refine aG_n ?_ rfl rfl)) (by first | rfl | assumption | (repeat first | assumption | rfl | refine aG_n ?_ rfl rfl)) (by first | rfl | assumption | (repeat first | assumption | rfl | refine aG_n ?_ rfl rfl)) (by first | rfl | assumption | (repeat first | assumption | rfl | refine aG_n ?_ rfl rfl)) _ (by first | rfl | assumption | (repeat first | assumption | rfl | refine aG_n ?_ rfl rfl))

/-- the digits of a code -/
theorem l_dg3 {p : Nat} {nv cv : Int32} (hc : c < 2 ^ 20) (h31 : μ.1 86 31 = nI (cn p 6)) (k : ∀ μ' : Mm, (∀ x, x ≠ 106 → μ'.1 x = μ.1 x) → μ'.2 = μ.2 → (∀ i, i < cn p 6 → μ'.1 106 i = nI (10 * (c / 3 ^ i % 3))) → ∀ L : aL, aL_get L 0 = some (.ref 86) → aL_get L 1 = some (.int hv) → aL_get L 3 = some (.int mv) → aL_get L 4 = some (.int av) → aL_get L 5 = some (.int nv) → aL_get L 6 = some (.int cv) → WP X mX12_learnt 213 L [] μ' Q) : ∀ (f i : Nat), i + f = cn p 6 → ∀ μ' : Mm, (∀ x, x ≠ 106 → μ'.1 x = μ.1 x) → μ'.2 = μ.2 → (∀ j, j < i → μ'.1 106 j = nI (10 * (c / 3 ^ j % 3))) → ∀ L : aL, aL_get L 0 = some (.ref 86) → aL_get L 1 = some (.int hv) → aL_get L 3 = some (.int mv) → aL_get L 4 = some (.int av) → aL_get L 5 = some (.int nv) → aL_get L 6 = some (.int cv) → aL_get L 7 = some (.int (nI (c / 3 ^ i))) → aL_get L 8 = some (.int (nI i)) → WP X mX12_learnt 178 L [] μ' Q
  | 0, i, hi, μ', ho, hr, hs, L, g0, g1, g3, g4, g5, g6, g7, g8 => by
    obtain rfl : i = cn p 6 := by omega
    have h6 := cn_le p 6
    have e31 : μ'.1 86 31 = nI (cn p 6) := by rw [ho 86 (by omega)]; exact h31
    refine wp_iload (pc := 178) dX12_learnt_178 (by first | rfl | assumption | (repeat first | assumption | rfl | refine aG_n ?_ rfl rfl)) ?_
    refine wp_aload_n (pc := 180) dX12_learnt_180 (by first | rfl | assumption | (repeat first | assumption | rfl | refine aG_n ?_ rfl rfl)) ?_
    refine wp_getI (pc := 181) dX12_learnt_181 fl_12_295 (by first | rfl | assumption | exact sh_house (by omega) | exact sh_wish (by omega) | exact sh_wor (by omega) | exact sh_bar (by omega) | exact sh_term (by omega) | exact sh_sheet (by omega) | exact sh_items (by omega) | exact sh_sums (by omega)) rfl ?_
    refine wp_icmp_ge (pc := 184) (tgt := 213) dX12_learnt_184 rfl (fun _ => ?_) (fun q => absurd (by rw [e31]; exact nI_le (by omega) (by omega)) q)
    exact k _ ho hr hs _ g0 g1 g3 g4 g5 g6
  | f + 1, i, hi, μ', ho, hr, hs, L, g0, g1, g3, g4, g5, g6, g7, g8 => by
    have h6 := cn_le p 6
    have e31 : μ'.1 86 31 = nI (cn p 6) := by rw [ho 86 (by omega)]; exact h31
    have ci : (nI i).toNatClampNeg = i := nI_clamp (by omega)
    have hcl : c / 3 ^ i ≤ c := Nat.div_le_self _ _
    have e1 : nI (c / 3 ^ i) - nI (c / 3 ^ i) / 3 * 3 = nI (c / 3 ^ i % 3) := pk_rem (d := 3) (by omega) (by decide) (by decide)
    have e2 : nI (c / 3 ^ i) / 3 = nI (c / 3 ^ (i + 1)) := by rw [Nat.pow_succ, ← Nat.div_div_eq_div_mul]; exact pk_div (d := 3) (by omega) (by decide) (by decide)
    have eg : (10 : Int32) * nI (c / 3 ^ i % 3) = nI (10 * (c / 3 ^ i % 3)) := pk_mul 10 _
    refine wp_iload (pc := 178) dX12_learnt_178 (by first | rfl | assumption | (repeat first | assumption | rfl | refine aG_n ?_ rfl rfl)) ?_
    refine wp_aload_n (pc := 180) dX12_learnt_180 (by first | rfl | assumption | (repeat first | assumption | rfl | refine aG_n ?_ rfl rfl)) ?_
    refine wp_getI (pc := 181) dX12_learnt_181 fl_12_295 (by first | rfl | assumption | exact sh_house (by omega) | exact sh_wish (by omega) | exact sh_wor (by omega) | exact sh_bar (by omega) | exact sh_term (by omega) | exact sh_sheet (by omega) | exact sh_items (by omega) | exact sh_sums (by omega)) rfl ?_
    refine wp_icmp_ge (pc := 184) (tgt := 213) dX12_learnt_184 rfl (fun q => absurd q (by rw [e31]; exact nI_ge (by omega) (by omega))) (fun _ => ?_)
    refine wp_aload_n (pc := 187) dX12_learnt_187 (by first | rfl | assumption | (repeat first | assumption | rfl | refine aG_n ?_ rfl rfl)) ?_
    refine wp_getR (pc := 188) dX12_learnt_188 fl_12_68 (by first | rfl | assumption | exact sh_house (by omega) | exact sh_wish (by omega) | exact sh_wor (by omega) | exact sh_bar (by omega) | exact sh_term (by omega) | exact sh_sheet (by omega) | exact sh_items (by omega) | exact sh_sums (by omega)) rfl ?_
    refine wp_iload (pc := 191) dX12_learnt_191 (by first | rfl | assumption | (repeat first | assumption | rfl | refine aG_n ?_ rfl rfl)) ?_
    refine wp_bipush (pc := 193) (v := 10) dX12_learnt_193 (by decide) ?_
    refine wp_iload (pc := 195) dX12_learnt_195 (by first | rfl | assumption | (repeat first | assumption | rfl | refine aG_n ?_ rfl rfl)) ?_
    refine wp_iconst (pc := 197) (v := 3) dX12_learnt_197 (by decide) ?_
    refine wp_irem (pc := 198) dX12_learnt_198 (by decide) ?_
    refine wp_imul (pc := 199) dX12_learnt_199 ?_
    refine wp_iast (pc := 200) dX12_learnt_200 (by first | rfl | assumption | exact sh_house (by omega) | exact sh_wish (by omega) | exact sh_wor (by omega) | exact sh_bar (by omega) | exact sh_term (by omega) | exact sh_sheet (by omega) | exact sh_items (by omega) | exact sh_sums (by omega)) (vp_in_nI (by omega) (by decide)) ?_
    refine wp_iload (pc := 201) dX12_learnt_201 (by first | rfl | assumption | (repeat first | assumption | rfl | refine aG_n ?_ rfl rfl)) ?_
    refine wp_iconst (pc := 203) (v := 3) dX12_learnt_203 (by decide) ?_
    refine wp_idiv (pc := 204) dX12_learnt_204 (by decide) ?_
    refine wp_istore (pc := 205) dX12_learnt_205 (by decide) ?_
    refine wp_iinc (pc := 207) dX12_learnt_207 (by decide) (by first | rfl | assumption | (repeat first | assumption | rfl | refine aG_n ?_ rfl rfl)) rfl ?_
    refine wp_goto (pc := 210) (tgt := 178) dX12_learnt_210 rfl ?_
    skip
    rw [ci, e1, eg]
    refine l_dg3 hc h31 k f (i + 1) (by omega) _ (fun x hx => ?_) (by exact hr) (fun j hj => ?_) _ (by first | rfl | assumption | (repeat first | assumption | rfl | refine aG_n ?_ rfl rfl)) (by first | rfl | assumption | (repeat first | assumption | rfl | refine aG_n ?_ rfl rfl)) (by first | rfl | assumption | (repeat first | assumption | rfl | refine aG_n ?_ rfl rfl)) (by first | rfl | assumption | (repeat first | assumption | rfl | refine aG_n ?_ rfl rfl)) (by first | rfl | assumption | (repeat first | assumption | rfl | refine aG_n ?_ rfl rfl)) (by first | rfl | assumption | (repeat first | assumption | rfl | refine aG_n ?_ rfl rfl)) (by rw [← e2]; first | rfl | assumption | (repeat first | assumption | rfl | refine aG_n ?_ rfl rfl)) (by rw [← nI_i1]; first | rfl | assumption | (repeat first | assumption | rfl | refine aG_n ?_ rfl rfl))
    · dsimp only; rw [up2_ne hx]; exact ho x hx
    · dsimp only
      by_cases e : j = i
      · subst e; exact up2_at
      · rw [up2_p (by omega)]; exact hs j (by omega)
/-- the things of the pool -/
theorem l_alt {p : Nat} {nv : Int32} (hp : p < 64) (hpool : μ.1 86 23 ||| μ.1 86 24 = nI p) (k : ∀ μ' : Mm, offA μ μ' → μ'.1 86 31 = nI (cn p 6) → (∀ t, t < 6 → p.testBit t = true → μ'.1 105 (cn p t) = nI t) → ∀ L : aL, aL_get L 0 = some (.ref 86) → aL_get L 1 = some (.int hv) → aL_get L 2 = some (.int nv) → WP X mX12_learnt 106 L [] μ' Q) : ∀ (f t : Nat), t + f = 6 → ∀ μ' : Mm, offA μ μ' → μ'.1 86 31 = nI (cn p t) → (∀ s, s < t → p.testBit s = true → μ'.1 105 (cn p s) = nI s) → ∀ L : aL, aL_get L 0 = some (.ref 86) → aL_get L 1 = some (.int hv) → aL_get L 2 = some (.int nv) → aL_get L 3 = some (.int (nI t)) → WP X mX12_learnt 57 L [] μ' Q
  | 0, t, ht, μ', ho, h31, hs, L, g0, g1, g2, g3 => by
    obtain rfl : t = 6 := by omega
    refine wp_iload_n (pc := 57) dX12_learnt_57 (by first | rfl | assumption | (repeat first | assumption | rfl | refine aG_n ?_ rfl rfl)) ?_
    refine wp_bipush (pc := 58) (v := 6) dX12_learnt_58 (by decide) ?_
    refine wp_icmp_ge (pc := 60) (tgt := 106) dX12_learnt_60 rfl (fun _ => ?_) (fun q => absurd (nI_le (a := 6) (b := 6) (by omega) (by omega)) q)
    exact k _ ho h31 hs _ g0 g1 g2
  | f + 1, t, ht, μ', ho, h31, hs, L, g0, g1, g2, g3 => by
    have ep : μ'.1 86 23 ||| μ'.1 86 24 = nI p := by rw [ho.1 86 23 (by omega), ho.1 86 24 (by omega)]; exact hpool
    have hct := cn_le p t
    have cct : (nI (cn p t)).toNatClampNeg = cn p t := nI_clamp (by omega)
    by_cases hb : p.testBit t = true
    · refine wp_iload_n (pc := 57) dX12_learnt_57 (by first | rfl | assumption | (repeat first | assumption | rfl | refine aG_n ?_ rfl rfl)) ?_
      refine wp_bipush (pc := 58) (v := 6) dX12_learnt_58 (by decide) ?_
      refine wp_icmp_ge (pc := 60) (tgt := 106) dX12_learnt_60 rfl (fun q => absurd q (nI_ge (a := t) (b := 6) (by omega) (by omega))) (fun _ => ?_)
      refine wp_aload_n (pc := 63) dX12_learnt_63 (by first | rfl | assumption | (repeat first | assumption | rfl | refine aG_n ?_ rfl rfl)) ?_
      refine wp_getI (pc := 64) dX12_learnt_64 fl_12_247 (by first | rfl | assumption | exact sh_house (by omega) | exact sh_wish (by omega) | exact sh_wor (by omega) | exact sh_bar (by omega) | exact sh_term (by omega) | exact sh_sheet (by omega) | exact sh_items (by omega) | exact sh_sums (by omega)) rfl ?_
      refine wp_aload_n (pc := 67) dX12_learnt_67 (by first | rfl | assumption | (repeat first | assumption | rfl | refine aG_n ?_ rfl rfl)) ?_
      refine wp_getI (pc := 68) dX12_learnt_68 fl_12_250 (by first | rfl | assumption | exact sh_house (by omega) | exact sh_wish (by omega) | exact sh_wor (by omega) | exact sh_bar (by omega) | exact sh_term (by omega) | exact sh_sheet (by omega) | exact sh_items (by omega) | exact sh_sums (by omega)) rfl ?_
      refine wp_ior (pc := 71) dX12_learnt_71 ?_
      refine wp_iload_n (pc := 72) dX12_learnt_72 (by first | rfl | assumption | (repeat first | assumption | rfl | refine aG_n ?_ rfl rfl)) ?_
      refine wp_ishr (pc := 73) dX12_learnt_73 ?_
      refine wp_iconst (pc := 74) (v := 1) dX12_learnt_74 (by decide) ?_
      refine wp_iand (pc := 75) dX12_learnt_75 ?_
      refine wp_iconst (pc := 76) (v := 1) dX12_learnt_76 (by decide) ?_
      refine wp_icmp_ne (pc := 77) (tgt := 100) dX12_learnt_77 rfl (fun q => absurd (by rw [ep]; exact (bit_i p hp t (by omega)).mpr hb) q) (fun _ => ?_)
      refine wp_aload_n (pc := 80) dX12_learnt_80 (by first | rfl | assumption | (repeat first | assumption | rfl | refine aG_n ?_ rfl rfl)) ?_
      refine wp_getR (pc := 81) dX12_learnt_81 fl_12_65 (by first | rfl | assumption | exact sh_house (by omega) | exact sh_wish (by omega) | exact sh_wor (by omega) | exact sh_bar (by omega) | exact sh_term (by omega) | exact sh_sheet (by omega) | exact sh_items (by omega) | exact sh_sums (by omega)) rfl ?_
      refine wp_aload_n (pc := 84) dX12_learnt_84 (by first | rfl | assumption | (repeat first | assumption | rfl | refine aG_n ?_ rfl rfl)) ?_
      refine wp_getI (pc := 85) dX12_learnt_85 fl_12_295 (by first | rfl | assumption | exact sh_house (by omega) | exact sh_wish (by omega) | exact sh_wor (by omega) | exact sh_bar (by omega) | exact sh_term (by omega) | exact sh_sheet (by omega) | exact sh_items (by omega) | exact sh_sums (by omega)) rfl ?_
      refine wp_iload_n (pc := 88) dX12_learnt_88 (by first | rfl | assumption | (repeat first | assumption | rfl | refine aG_n ?_ rfl rfl)) ?_
      refine wp_iast (pc := 89) dX12_learnt_89 (by first | rfl | assumption | exact sh_house (by omega) | exact sh_wish (by omega) | exact sh_wor (by omega) | exact sh_bar (by omega) | exact sh_term (by omega) | exact sh_sheet (by omega) | exact sh_items (by omega) | exact sh_sums (by omega)) (by rw [h31]; exact vp_in_nI (by omega) (by decide)) ?_
      refine wp_aload_n (pc := 90) dX12_learnt_90 (by first | rfl | assumption | (repeat first | assumption | rfl | refine aG_n ?_ rfl rfl)) ?_
      refine wp_dupr (pc := 91) dX12_learnt_91 ?_
      refine wp_getI (pc := 92) dX12_learnt_92 fl_12_295 (by first | rfl | assumption | exact sh_house (by omega) | exact sh_wish (by omega) | exact sh_wor (by omega) | exact sh_bar (by omega) | exact sh_term (by omega) | exact sh_sheet (by omega) | exact sh_items (by omega) | exact sh_sums (by omega)) rfl ?_
      refine wp_iconst (pc := 95) (v := 1) dX12_learnt_95 (by decide) ?_
      refine wp_iadd (pc := 96) dX12_learnt_96 ?_
      refine wp_putI (pc := 97) dX12_learnt_97 fl_12_295 (by first | rfl | assumption | exact sh_house (by omega) | exact sh_wish (by omega) | exact sh_wor (by omega) | exact sh_bar (by omega) | exact sh_term (by omega) | exact sh_sheet (by omega) | exact sh_items (by omega) | exact sh_sums (by omega)) rfl rfl rfl ?_
      refine wp_iinc (pc := 100) dX12_learnt_100 (by decide) (by first | rfl | assumption | (repeat first | assumption | rfl | refine aG_n ?_ rfl rfl)) rfl ?_
      refine wp_goto (pc := 103) (tgt := 57) dX12_learnt_103 rfl ?_
      skip
      dsimp only
      rw [h31, cct, up2_ne (show 86 ≠ 105 by decide), h31, nI_1]
      refine l_alt hp hpool k f (t + 1) (by omega) _ ⟨fun x j hx => ?_, by exact ho.2⟩ (by rw [cn_y hb]; dsimp only; exact up2_at) (fun s hs2 hb2 => ?_) _ (by first | rfl | assumption | (repeat first | assumption | rfl | refine aG_n ?_ rfl rfl)) (by first | rfl | assumption | (repeat first | assumption | rfl | refine aG_n ?_ rfl rfl)) (by first | rfl | assumption | (repeat first | assumption | rfl | refine aG_n ?_ rfl rfl)) (by rw [← nI_i1]; first | rfl | assumption | (repeat first | assumption | rfl | refine aG_n ?_ rfl rfl))
      · dsimp only; rw [up2_p (by omega), up2_p (by omega)]; exact ho.1 x j hx
      · dsimp only
        rw [up2_ne (by omega)]
        by_cases e : s = t
        · subst e; exact up2_at
        · have hlt : cn p s + 1 ≤ cn p t := by rw [← cn_y hb2]; exact cn_mono p _ _ (by omega)
          rw [up2_p (by omega)]; exact hs s (by omega) hb2
    · refine wp_iload_n (pc := 57) dX12_learnt_57 (by first | rfl | assumption | (repeat first | assumption | rfl | refine aG_n ?_ rfl rfl)) ?_
      refine wp_bipush (pc := 58) (v := 6) dX12_learnt_58 (by decide) ?_
      refine wp_icmp_ge (pc := 60) (tgt := 106) dX12_learnt_60 rfl (fun q => absurd q (nI_ge (a := t) (b := 6) (by omega) (by omega))) (fun _ => ?_)
      refine wp_aload_n (pc := 63) dX12_learnt_63 (by first | rfl | assumption | (repeat first | assumption | rfl | refine aG_n ?_ rfl rfl)) ?_
      refine wp_getI (pc := 64) dX12_learnt_64 fl_12_247 (by first | rfl | assumption | exact sh_house (by omega) | exact sh_wish (by omega) | exact sh_wor (by omega) | exact sh_bar (by omega) | exact sh_term (by omega) | exact sh_sheet (by omega) | exact sh_items (by omega) | exact sh_sums (by omega)) rfl ?_
      refine wp_aload_n (pc := 67) dX12_learnt_67 (by first | rfl | assumption | (repeat first | assumption | rfl | refine aG_n ?_ rfl rfl)) ?_
      refine wp_getI (pc := 68) dX12_learnt_68 fl_12_250 (by first | rfl | assumption | exact sh_house (by omega) | exact sh_wish (by omega) | exact sh_wor (by omega) | exact sh_bar (by omega) | exact sh_term (by omega) | exact sh_sheet (by omega) | exact sh_items (by omega) | exact sh_sums (by omega)) rfl ?_
      refine wp_ior (pc := 71) dX12_learnt_71 ?_
      refine wp_iload_n (pc := 72) dX12_learnt_72 (by first | rfl | assumption | (repeat first | assumption | rfl | refine aG_n ?_ rfl rfl)) ?_
      refine wp_ishr (pc := 73) dX12_learnt_73 ?_
      refine wp_iconst (pc := 74) (v := 1) dX12_learnt_74 (by decide) ?_
      refine wp_iand (pc := 75) dX12_learnt_75 ?_
      refine wp_iconst (pc := 76) (v := 1) dX12_learnt_76 (by decide) ?_
      refine wp_icmp_ne (pc := 77) (tgt := 100) dX12_learnt_77 rfl (fun _ => ?_) (fun q => absurd q (by rw [ep]; exact fun z => hb ((bit_i p hp t (by omega)).mp z)))
      refine wp_iinc (pc := 100) dX12_learnt_100 (by decide) (by first | rfl | assumption | (repeat first | assumption | rfl | refine aG_n ?_ rfl rfl)) rfl ?_
      refine wp_goto (pc := 103) (tgt := 57) dX12_learnt_103 rfl ?_
      exact l_alt hp hpool k f (t + 1) (by omega) _ ho (by rw [cn_n hb]; exact h31) (fun s hs2 hb2 => if e : s = t then absurd (e ▸ hb2) hb else hs s (by omega) hb2) _ (by first | rfl | assumption | (repeat first | assumption | rfl | refine aG_n ?_ rfl rfl)) (by first | rfl | assumption | (repeat first | assumption | rfl | refine aG_n ?_ rfl rfl)) (by first | rfl | assumption | (repeat first | assumption | rfl | refine aG_n ?_ rfl rfl)) (by rw [← nI_i1]; first | rfl | assumption | (repeat first | assumption | rfl | refine aG_n ?_ rfl rfl))
theorem l_p3 {p : Nat} {nv mv : Int32} (h31 : μ.1 86 31 = nI (cn p 6)) (k : ∀ L : aL, aL_get L 0 = some (.ref 86) → aL_get L 1 = some (.int hv) → aL_get L 2 = some (.int nv) → aL_get L 3 = some (.int mv) → aL_get L 4 = some (.int (nI (3 ^ cn p 6))) → WP X mX12_learnt 146 L [] μ Q) : ∀ (f i : Nat), i + f = cn p 6 → ∀ L : aL, aL_get L 0 = some (.ref 86) → aL_get L 1 = some (.int hv) → aL_get L 2 = some (.int nv) → aL_get L 3 = some (.int mv) → aL_get L 4 = some (.int (nI (3 ^ i))) → aL_get L 5 = some (.int (nI i)) → WP X mX12_learnt 125 L [] μ Q
  | 0, i, hi, L, g0, g1, g2, g3, g4, g5 => by
    obtain rfl : i = cn p 6 := by omega
    have h6 := cn_le p 6
    refine wp_iload (pc := 125) dX12_learnt_125 (by first | rfl | assumption | (repeat first | assumption | rfl | refine aG_n ?_ rfl rfl)) ?_
    refine wp_aload_n (pc := 127) dX12_learnt_127 (by first | rfl | assumption | (repeat first | assumption | rfl | refine aG_n ?_ rfl rfl)) ?_
    refine wp_getI (pc := 128) dX12_learnt_128 fl_12_295 (by first | rfl | assumption | exact sh_house (by omega) | exact sh_wish (by omega) | exact sh_wor (by omega) | exact sh_bar (by omega) | exact sh_term (by omega) | exact sh_sheet (by omega) | exact sh_items (by omega) | exact sh_sums (by omega)) rfl ?_
    refine wp_icmp_ge (pc := 131) (tgt := 146) dX12_learnt_131 rfl (fun _ => ?_) (fun q => absurd (by rw [h31]; exact nI_le (by omega) (by omega)) q)
    exact k _ g0 g1 g2 g3 g4
  | f + 1, i, hi, L, g0, g1, g2, g3, g4, g5 => by
    have h6 := cn_le p 6
    have e : nI (3 ^ i) * 3 = nI (3 ^ (i + 1)) := by rw [Nat.pow_succ]; exact pk_mul _ 3
    refine wp_iload (pc := 125) dX12_learnt_125 (by first | rfl | assumption | (repeat first | assumption | rfl | refine aG_n ?_ rfl rfl)) ?_
    refine wp_aload_n (pc := 127) dX12_learnt_127 (by first | rfl | assumption | (repeat first | assumption | rfl | refine aG_n ?_ rfl rfl)) ?_
    refine wp_getI (pc := 128) dX12_learnt_128 fl_12_295 (by first | rfl | assumption | exact sh_house (by omega) | exact sh_wish (by omega) | exact sh_wor (by omega) | exact sh_bar (by omega) | exact sh_term (by omega) | exact sh_sheet (by omega) | exact sh_items (by omega) | exact sh_sums (by omega)) rfl ?_
    refine wp_icmp_ge (pc := 131) (tgt := 146) dX12_learnt_131 rfl (fun q => absurd q (by rw [h31]; exact nI_ge (by omega) (by omega))) (fun _ => ?_)
    refine wp_iload (pc := 134) dX12_learnt_134 (by first | rfl | assumption | (repeat first | assumption | rfl | refine aG_n ?_ rfl rfl)) ?_
    refine wp_iconst (pc := 136) (v := 3) dX12_learnt_136 (by decide) ?_
    refine wp_imul (pc := 137) dX12_learnt_137 ?_
    refine wp_istore (pc := 138) dX12_learnt_138 (by decide) ?_
    refine wp_iinc (pc := 140) dX12_learnt_140 (by decide) (by first | rfl | assumption | (repeat first | assumption | rfl | refine aG_n ?_ rfl rfl)) rfl ?_
    refine wp_goto (pc := 143) (tgt := 125) dX12_learnt_143 rfl ?_
    exact l_p3 h31 k f (i + 1) (by omega) _ (by first | rfl | assumption | (repeat first | assumption | rfl | refine aG_n ?_ rfl rfl)) (by first | rfl | assumption | (repeat first | assumption | rfl | refine aG_n ?_ rfl rfl)) (by first | rfl | assumption | (repeat first | assumption | rfl | refine aG_n ?_ rfl rfl)) (by first | rfl | assumption | (repeat first | assumption | rfl | refine aG_n ?_ rfl rfl)) (by rw [← e]; first | rfl | assumption | (repeat first | assumption | rfl | refine aG_n ?_ rfl rfl)) (by rw [← nI_i1]; first | rfl | assumption | (repeat first | assumption | rfl | refine aG_n ?_ rfl rfl))
theorem l_cs (hW : I_wish μ.1) (hL : LK μ.1 R a b w ta tb) (hd : d < 2) (hn : ∀ k, k < n → 2 * k + d < w) (hn2 : n < 2 ^ 31) (hhv : hv = nI (two a b d)) (k : ∀ μ', offA μ μ' → Q (some (.int (nI (ctF (fun c => ∀ k, k < n → GW μ.1 a b ta tb d c (2 * k + d)) (3 ^ cn (ta ||| tb) 6))))) μ') : ∀ (f c : Nat), c + f = 3 ^ cn (ta ||| tb) 6 → ∀ μ', offA μ μ' → μ'.1 86 31 = nI (cn (ta ||| tb) 6) → (∀ t, t < 6 → (ta ||| tb).testBit t = true → μ'.1 105 (cn (ta ||| tb) t) = nI t) → ∀ L : aL, aL_get L 0 = some (.ref 86) → aL_get L 1 = some (.int hv) → aL_get L 3 = some (.int (nI (ctF (fun c => ∀ k, k < n → GW μ.1 a b ta tb d c (2 * k + d)) c))) → aL_get L 4 = some (.int (nI (3 ^ cn (ta ||| tb) 6))) → aL_get L 5 = some (.int (nI n)) → aL_get L 6 = some (.int (nI c)) → WP X mX12_learnt 164 L [] μ' Q
  | 0, c, hc, μ', ho, h31, h105, L, g0, g1, g3, g4, g5, g6 => by
    have hall := p3_le (p := ta ||| tb) (t := 6) (by omega)
    obtain rfl : c = 3 ^ cn (ta ||| tb) 6 := by omega
    refine wp_iload (pc := 164) dX12_learnt_164 (by first | rfl | assumption | (repeat first | assumption | rfl | refine aG_n ?_ rfl rfl)) ?_
    refine wp_iload (pc := 166) dX12_learnt_166 (by first | rfl | assumption | (repeat first | assumption | rfl | refine aG_n ?_ rfl rfl)) ?_
    refine wp_icmp_ge (pc := 168) (tgt := 284) dX12_learnt_168 rfl (fun _ => ?_) (fun q => absurd (nI_le (by omega) (by omega)) q)
    refine wp_iload_n (pc := 284) dX12_learnt_284 (by first | rfl | assumption | (repeat first | assumption | rfl | refine aG_n ?_ rfl rfl)) ?_
    refine wp_ireturn (pc := 285) dX12_learnt_285 rfl (by first | rfl | decide | assumption) ?_
    exact k _ ho
  | f + 1, c, hc, μ', ho, h31, h105, L, g0, g1, g3, g4, g5, g6 => by
    have hall := p3_le (p := ta ||| tb) (t := 6) (by omega)
    obtain ⟨⟨ha, hb, hab⟩, -⟩ := id hL
    have nxt : ∀ (v : Int32) (μ3 : Mm), offA μ μ3 → AS μ3.1 (ta ||| tb) c → ((v = 1 ∧ ∀ k, k < n → GW μ.1 a b ta tb d c (2 * k + d)) ∨ (v = 0 ∧ ¬ ∀ k, k < n → GW μ.1 a b ta tb d c (2 * k + d))) → ∀ L : aL, aL_get L 0 = some (.ref 86) → aL_get L 1 = some (.int hv) → aL_get L 3 = some (.int (nI (ctF (fun c => ∀ k, k < n → GW μ.1 a b ta tb d c (2 * k + d)) c))) → aL_get L 4 = some (.int (nI (3 ^ cn (ta ||| tb) 6))) → aL_get L 5 = some (.int (nI n)) → aL_get L 6 = some (.int (nI c)) → aL_get L 8 = some (.int v) → WP X mX12_learnt 265 L [] μ3 Q := by
      intro v μ3 o3 hA3 hP L g0 g1 g3 g4 g5 g6 g8
      rcases hP with ⟨rfl, hP⟩ | ⟨rfl, hP⟩
      · have ec : nI (ctF (fun c => ∀ k, k < n → GW μ.1 a b ta tb d c (2 * k + d)) c) + 1 = nI (ctF (fun c => ∀ k, k < n → GW μ.1 a b ta tb d c (2 * k + d)) (c + 1)) := by rw [ctF_y (P := fun c => ∀ k, k < n → GW μ.1 a b ta tb d c (2 * k + d)) (n := c) hP]; exact nI_1 _
        refine wp_iload_n (pc := 265) dX12_learnt_265 (by first | rfl | assumption | (repeat first | assumption | rfl | refine aG_n ?_ rfl rfl)) ?_
        refine wp_iload (pc := 266) dX12_learnt_266 (by first | rfl | assumption | (repeat first | assumption | rfl | refine aG_n ?_ rfl rfl)) ?_
        refine wp_if_eq (pc := 268) (tgt := 275) dX12_learnt_268 rfl (fun q => absurd q (by decide)) (fun _ => ?_)
        refine wp_iconst (pc := 271) (v := 1) dX12_learnt_271 (by decide) ?_
        refine wp_goto (pc := 272) (tgt := 276) dX12_learnt_272 rfl ?_
        refine wp_iadd (pc := 276) dX12_learnt_276 ?_
        refine wp_istore_n (pc := 277) dX12_learnt_277 (by decide) ?_
        refine wp_iinc (pc := 278) dX12_learnt_278 (by decide) (by first | rfl | assumption | (repeat first | assumption | rfl | refine aG_n ?_ rfl rfl)) rfl ?_
        refine wp_goto (pc := 281) (tgt := 164) dX12_learnt_281 rfl ?_
        exact l_cs hW hL hd hn hn2 hhv k f (c + 1) (by omega) _ o3 hA3.1 (fun t ht hb => (hA3.2 t ht hb).1) _ (by first | rfl | assumption | (repeat first | assumption | rfl | refine aG_n ?_ rfl rfl)) (by first | rfl | assumption | (repeat first | assumption | rfl | refine aG_n ?_ rfl rfl)) (by rw [← ec]; first | rfl | assumption | (repeat first | assumption | rfl | refine aG_n ?_ rfl rfl)) (by first | rfl | assumption | (repeat first | assumption | rfl | refine aG_n ?_ rfl rfl)) (by first | rfl | assumption | (repeat first | assumption | rfl | refine aG_n ?_ rfl rfl)) (by rw [← nI_i1]; first | rfl | assumption | (repeat first | assumption | rfl | refine aG_n ?_ rfl rfl))
      · have ec : nI (ctF (fun c => ∀ k, k < n → GW μ.1 a b ta tb d c (2 * k + d)) c) + 0 = nI (ctF (fun c => ∀ k, k < n → GW μ.1 a b ta tb d c (2 * k + d)) (c + 1)) := by rw [ctF_n (P := fun c => ∀ k, k < n → GW μ.1 a b ta tb d c (2 * k + d)) (n := c) hP]; exact Int32.add_zero _
        refine wp_iload_n (pc := 265) dX12_learnt_265 (by first | rfl | assumption | (repeat first | assumption | rfl | refine aG_n ?_ rfl rfl)) ?_
        refine wp_iload (pc := 266) dX12_learnt_266 (by first | rfl | assumption | (repeat first | assumption | rfl | refine aG_n ?_ rfl rfl)) ?_
        refine wp_if_eq (pc := 268) (tgt := 275) dX12_learnt_268 rfl (fun _ => ?_) (fun q => absurd rfl q)
        refine wp_iconst (pc := 275) (v := 0) dX12_learnt_275 (by decide) ?_
        refine wp_iadd (pc := 276) dX12_learnt_276 ?_
        refine wp_istore_n (pc := 277) dX12_learnt_277 (by decide) ?_
        refine wp_iinc (pc := 278) dX12_learnt_278 (by decide) (by first | rfl | assumption | (repeat first | assumption | rfl | refine aG_n ?_ rfl rfl)) rfl ?_
        refine wp_goto (pc := 281) (tgt := 164) dX12_learnt_281 rfl ?_
        exact l_cs hW hL hd hn hn2 hhv k f (c + 1) (by omega) _ o3 hA3.1 (fun t ht hb => (hA3.2 t ht hb).1) _ (by first | rfl | assumption | (repeat first | assumption | rfl | refine aG_n ?_ rfl rfl)) (by first | rfl | assumption | (repeat first | assumption | rfl | refine aG_n ?_ rfl rfl)) (by rw [← ec]; first | rfl | assumption | (repeat first | assumption | rfl | refine aG_n ?_ rfl rfl)) (by first | rfl | assumption | (repeat first | assumption | rfl | refine aG_n ?_ rfl rfl)) (by first | rfl | assumption | (repeat first | assumption | rfl | refine aG_n ?_ rfl rfl)) (by rw [← nI_i1]; first | rfl | assumption | (repeat first | assumption | rfl | refine aG_n ?_ rfl rfl))
    have hk : ∀ μ2 : Mm, (∀ x, x ≠ 106 → μ2.1 x = μ'.1 x) → μ2.2 = μ'.2 → (∀ i, i < cn (ta ||| tb) 6 → μ2.1 106 i = nI (10 * (c / 3 ^ i % 3))) → ∀ L : aL, aL_get L 0 = some (.ref 86) → aL_get L 1 = some (.int hv) → aL_get L 3 = some (.int (nI (ctF (fun c => ∀ k, k < n → GW μ.1 a b ta tb d c (2 * k + d)) c))) → aL_get L 4 = some (.int (nI (3 ^ cn (ta ||| tb) 6))) → aL_get L 5 = some (.int (nI n)) → aL_get L 6 = some (.int (nI c)) → WP X mX12_learnt 213 L [] μ2 Q := by
      intro μ2 o2 r2 s2 L g0 g1 g3 g4 g5 g6
      have oA : offA μ μ2 := ⟨fun x j hx => by rw [o2 x (by omega)]; exact ho.1 x j hx, r2.trans ho.2⟩
      have hA2 : AS μ2.1 (ta ||| tb) c := by
        refine ⟨by rw [o2 86 (by omega)]; exact h31, fun t ht hb => ⟨by rw [o2 105 (by omega)]; exact h105 t ht hb, ?_⟩⟩
        have hlt : cn (ta ||| tb) t + 1 ≤ cn (ta ||| tb) 6 := by rw [← cn_y hb]; exact cn_mono _ _ _ (by omega)
        rw [s2 _ (by omega)]
        unfold gv gvN
        rw [if_pos hb]
      have egw : ∀ pl, GW μ2.1 a b ta tb d c pl ↔ GW μ.1 a b ta tb d c pl := fun pl => oA.gw ha hb
      refine wp_iconst (pc := 213) (v := 1) dX12_learnt_213 (by decide) ?_
      refine wp_istore (pc := 214) dX12_learnt_214 (by decide) ?_
      refine wp_iconst (pc := 216) (v := 0) dX12_learnt_216 (by decide) ?_
      refine wp_istore (pc := 217) dX12_learnt_217 (by decide) ?_
      skip
      refine l_wd (μ := μ2) (c := c) (oA.wish hW) (oA.lk hL) hd hn hn2 hA2 hhv (fun v μ3 o3 hA3 hP => nxt v μ3 (oA.tr o3) hA3 ?_) n 0 (by omega) (fun j hj => absurd hj (by omega)) μ2 ⟨fun _ _ _ => rfl, rfl⟩ hA2 _ (by first | rfl | assumption | (repeat first | assumption | rfl | refine aG_n ?_ rfl rfl)) (by first | rfl | assumption | (repeat first | assumption | rfl | refine aG_n ?_ rfl rfl)) (by first | rfl | assumption | (repeat first | assumption | rfl | refine aG_n ?_ rfl rfl)) (by first | rfl | assumption | (repeat first | assumption | rfl | refine aG_n ?_ rfl rfl)) (by first | rfl | assumption | (repeat first | assumption | rfl | refine aG_n ?_ rfl rfl)) (by first | rfl | assumption | (repeat first | assumption | rfl | refine aG_n ?_ rfl rfl)) (by first | rfl | assumption | (repeat first | assumption | rfl | refine aG_n ?_ rfl rfl)) (by first | rfl | assumption | (repeat first | assumption | rfl | refine aG_n ?_ rfl rfl))
      rcases hP with ⟨h1, h2⟩ | ⟨h1, h2⟩
      · exact Or.inl ⟨h1, fun k hk => (egw _).mp (h2 k hk)⟩
      · exact Or.inr ⟨h1, fun z => h2 (fun k hk => (egw _).mpr (z k hk))⟩
    refine wp_iload (pc := 164) dX12_learnt_164 (by first | rfl | assumption | (repeat first | assumption | rfl | refine aG_n ?_ rfl rfl)) ?_
    refine wp_iload (pc := 166) dX12_learnt_166 (by first | rfl | assumption | (repeat first | assumption | rfl | refine aG_n ?_ rfl rfl)) ?_
    refine wp_icmp_ge (pc := 168) (tgt := 284) dX12_learnt_168 rfl (fun q => absurd q (nI_ge (by omega) (by omega))) (fun _ => ?_)
    refine wp_iload (pc := 171) dX12_learnt_171 (by first | rfl | assumption | (repeat first | assumption | rfl | refine aG_n ?_ rfl rfl)) ?_
    refine wp_istore (pc := 173) dX12_learnt_173 (by decide) ?_
    refine wp_iconst (pc := 175) (v := 0) dX12_learnt_175 (by decide) ?_
    refine wp_istore (pc := 176) dX12_learnt_176 (by decide) ?_
    skip
    exact l_dg3 (μ := μ') (c := c) (p := ta ||| tb) (by omega) h31 hk (cn (ta ||| tb) 6) 0 (by omega) μ' (fun _ _ => rfl) rfl (fun j hj => absurd hj (by omega)) _ (by first | rfl | assumption | (repeat first | assumption | rfl | refine aG_n ?_ rfl rfl)) (by first | rfl | assumption | (repeat first | assumption | rfl | refine aG_n ?_ rfl rfl)) (by first | rfl | assumption | (repeat first | assumption | rfl | refine aG_n ?_ rfl rfl)) (by first | rfl | assumption | (repeat first | assumption | rfl | refine aG_n ?_ rfl rfl)) (by first | rfl | assumption | (repeat first | assumption | rfl | refine aG_n ?_ rfl rfl)) (by first | rfl | assumption | (repeat first | assumption | rfl | refine aG_n ?_ rfl rfl)) (by rw [Nat.pow_zero, Nat.div_one]; first | rfl | assumption | (repeat first | assumption | rfl | refine aG_n ?_ rfl rfl)) (by first | rfl | assumption | (repeat first | assumption | rfl | refine aG_n ?_ rfl rfl))
end LEARNM


def fsP (M : MM) (h : Int32) (N : MM) (j : Nat) : Prop := N 120 j = eO M h (N 120) j ∧ N 121 j = brV M h (N 120 j) j ∧ N 122 j = stV M h (N 120 j) j
theorem fs_step {M M' N : MM} {h : Int32} {n i : Nat} (hL : LT M n) (hi : i < n) (hE : ∀ j, j < i → fsP M h M' j) (h0 : ∀ j, j ≠ i → N 120 j = M' 120 j) (h1 : ∀ j, j ≠ i → N 121 j = M' 121 j) (h2 : ∀ j, j ≠ i → N 122 j = M' 122 j) (v : N 120 i = eO M h (M' 120) i) (b : N 121 i = brV M h (N 120 i) i) (s : N 122 i = stV M h (N 120 i) i) : ∀ j, j < i + 1 → fsP M h N j := by
  intro j hj
  by_cases e : j = i
  · subst e
    refine ⟨?_, b, s⟩
    rw [v]
    exact (eO_c hL hi (fun q hq => h0 q (by omega))).symm
  · obtain ⟨x1, x2, x3⟩ := hE j (by omega)
    refine ⟨?_, ?_, ?_⟩
    · rw [h0 j e, x1]
      exact (eO_c hL (by omega) (fun q hq => h0 q (by omega))).symm
    · rw [h1 j e, h0 j e]; exact x2
    · rw [h2 j e, h0 j e]; exact x3
section FS
variable {X : aX} {μ : Mm} {Q : Option Value → Mm → Prop} {n i : Nat} {h e : Int32}
theorem l_fs192 (hi : i < 16) (n3 : ¬ μ.1 111 i = 3) (hE : μ.1 120 i = e) (k : ∀ L : aL, aL_get L 0 = some (.ref 86) → aL_get L 1 = some (.int h) → aL_get L 2 = some (.int (nI i)) → WP X mX12_findStates 335 L [] (up2 (up2 μ.1 122 i (stV μ.1 h e i)) 121 i (brV μ.1 h e i), μ.2) Q) (L : aL) (g0 : aL_get L 0 = some (.ref 86)) (g1 : aL_get L 1 = some (.int h)) (g2 : aL_get L 2 = some (.int (nI i))) : WP X mX12_findStates 192 L [] μ Q := by
  have ci : (nI i).toNatClampNeg = i := nI_clamp (by omega)
  by_cases c3 : e = -4
  · have sv : stV μ.1 h e i = 1 := by unfold stV; rw [if_neg n3, if_pos c3]
    have bv : brV μ.1 h e i = -4 := by unfold brV; rw [sv]; exact if_neg (by decide)
    rw [sv, bv] at k
    refine wp_aload_n (pc := 192) dX12_findStates_192 (by first | rfl | assumption | (repeat first | assumption | rfl | refine aG_n ?_ rfl rfl)) ?_
    refine wp_getR (pc := 193) dX12_findStates_193 fl_12_101 (by first | rfl | assumption | exact sh_house (by omega) | exact sh_wish (by omega) | exact sh_wor (by omega) | exact sh_bar (by omega) | exact sh_term (by omega) | exact sh_sheet (by omega) | exact sh_items (by omega) | exact sh_sums (by omega)) rfl ?_
    refine wp_iload_n (pc := 196) dX12_findStates_196 (by first | rfl | assumption | (repeat first | assumption | rfl | refine aG_n ?_ rfl rfl)) ?_
    refine wp_iald (pc := 197) dX12_findStates_197 (by first | rfl | assumption | exact sh_house (by omega) | exact sh_wish (by omega) | exact sh_wor (by omega) | exact sh_bar (by omega) | exact sh_term (by omega) | exact sh_sheet (by omega) | exact sh_items (by omega) | exact sh_sums (by omega)) (vp_in_nI (by omega) (by decide)) ?_
    refine wp_bipush (pc := 198) (v := -4) dX12_findStates_198 (by decide) ?_
    refine wp_icmp_eq (pc := 200) (tgt := 217) dX12_findStates_200 rfl (fun c200_1 => ?_) (fun c200_1 => ?_)
    · refine wp_iconst (pc := 217) (v := 0) dX12_findStates_217 (by decide) ?_
      refine wp_istore (pc := 218) dX12_findStates_218 (by decide) ?_
      refine wp_aload_n (pc := 220) dX12_findStates_220 (by first | rfl | assumption | (repeat first | assumption | rfl | refine aG_n ?_ rfl rfl)) ?_
      refine wp_getR (pc := 221) dX12_findStates_221 fl_12_110 (by first | rfl | assumption | exact sh_house (by omega) | exact sh_wish (by omega) | exact sh_wor (by omega) | exact sh_bar (by omega) | exact sh_term (by omega) | exact sh_sheet (by omega) | exact sh_items (by omega) | exact sh_sums (by omega)) rfl ?_
      refine wp_iload_n (pc := 224) dX12_findStates_224 (by first | rfl | assumption | (repeat first | assumption | rfl | refine aG_n ?_ rfl rfl)) ?_
      refine wp_iald (pc := 225) dX12_findStates_225 (by first | rfl | assumption | exact sh_house (by omega) | exact sh_wish (by omega) | exact sh_wor (by omega) | exact sh_bar (by omega) | exact sh_term (by omega) | exact sh_sheet (by omega) | exact sh_items (by omega) | exact sh_sums (by omega)) (vp_in_nI (by omega) (by decide)) ?_
      refine wp_bipush (pc := 226) (v := -4) dX12_findStates_226 (by decide) ?_
      refine wp_icmp_ne (pc := 228) (tgt := 241) dX12_findStates_228 rfl (fun q => absurd (by rw [ci]; exact hE.trans c3) q) (fun _ => ?_)
      refine wp_aload_n (pc := 231) dX12_findStates_231 (by first | rfl | assumption | (repeat first | assumption | rfl | refine aG_n ?_ rfl rfl)) ?_
      refine wp_getR (pc := 232) dX12_findStates_232 fl_12_116 (by first | rfl | assumption | exact sh_house (by omega) | exact sh_wish (by omega) | exact sh_wor (by omega) | exact sh_bar (by omega) | exact sh_term (by omega) | exact sh_sheet (by omega) | exact sh_items (by omega) | exact sh_sums (by omega)) rfl ?_
      refine wp_iload_n (pc := 235) dX12_findStates_235 (by first | rfl | assumption | (repeat first | assumption | rfl | refine aG_n ?_ rfl rfl)) ?_
      refine wp_iconst (pc := 236) (v := 1) dX12_findStates_236 (by decide) ?_
      refine wp_iast (pc := 237) dX12_findStates_237 (by first | rfl | assumption | exact sh_house (by omega) | exact sh_wish (by omega) | exact sh_wor (by omega) | exact sh_bar (by omega) | exact sh_term (by omega) | exact sh_sheet (by omega) | exact sh_items (by omega) | exact sh_sums (by omega)) (vp_in_nI (by omega) (by decide)) ?_
      refine wp_goto (pc := 238) (tgt := 296) dX12_findStates_238 rfl ?_
      refine wp_aload_n (pc := 296) dX12_findStates_296 (by first | rfl | assumption | (repeat first | assumption | rfl | refine aG_n ?_ rfl rfl)) ?_
      refine wp_getR (pc := 297) dX12_findStates_297 fl_12_113 (by first | rfl | assumption | exact sh_house (by omega) | exact sh_wish (by omega) | exact sh_wor (by omega) | exact sh_bar (by omega) | exact sh_term (by omega) | exact sh_sheet (by omega) | exact sh_items (by omega) | exact sh_sums (by omega)) rfl ?_
      refine wp_iload_n (pc := 300) dX12_findStates_300 (by first | rfl | assumption | (repeat first | assumption | rfl | refine aG_n ?_ rfl rfl)) ?_
      refine wp_aload_n (pc := 301) dX12_findStates_301 (by first | rfl | assumption | (repeat first | assumption | rfl | refine aG_n ?_ rfl rfl)) ?_
      refine wp_getR (pc := 302) dX12_findStates_302 fl_12_116 (by first | rfl | assumption | exact sh_house (by omega) | exact sh_wish (by omega) | exact sh_wor (by omega) | exact sh_bar (by omega) | exact sh_term (by omega) | exact sh_sheet (by omega) | exact sh_items (by omega) | exact sh_sums (by omega)) rfl ?_
      refine wp_iload_n (pc := 305) dX12_findStates_305 (by first | rfl | assumption | (repeat first | assumption | rfl | refine aG_n ?_ rfl rfl)) ?_
      refine wp_iald (pc := 306) dX12_findStates_306 (by first | rfl | assumption | exact sh_house (by omega) | exact sh_wish (by omega) | exact sh_wor (by omega) | exact sh_bar (by omega) | exact sh_term (by omega) | exact sh_sheet (by omega) | exact sh_items (by omega) | exact sh_sums (by omega)) (vp_in_nI (by omega) (by decide)) ?_
      refine wp_iconst (pc := 307) (v := 4) dX12_findStates_307 (by decide) ?_
      refine wp_icmp_eq (pc := 308) (tgt := 321) dX12_findStates_308 rfl (fun q => absurd q (by dsimp only; rw [up2_at]; decide)) (fun _ => ?_)
      refine wp_aload_n (pc := 311) dX12_findStates_311 (by first | rfl | assumption | (repeat first | assumption | rfl | refine aG_n ?_ rfl rfl)) ?_
      refine wp_getR (pc := 312) dX12_findStates_312 fl_12_116 (by first | rfl | assumption | exact sh_house (by omega) | exact sh_wish (by omega) | exact sh_wor (by omega) | exact sh_bar (by omega) | exact sh_term (by omega) | exact sh_sheet (by omega) | exact sh_items (by omega) | exact sh_sums (by omega)) rfl ?_
      refine wp_iload_n (pc := 315) dX12_findStates_315 (by first | rfl | assumption | (repeat first | assumption | rfl | refine aG_n ?_ rfl rfl)) ?_
      refine wp_iald (pc := 316) dX12_findStates_316 (by first | rfl | assumption | exact sh_house (by omega) | exact sh_wish (by omega) | exact sh_wor (by omega) | exact sh_bar (by omega) | exact sh_term (by omega) | exact sh_sheet (by omega) | exact sh_items (by omega) | exact sh_sums (by omega)) (vp_in_nI (by omega) (by decide)) ?_
      refine wp_iconst (pc := 317) (v := 5) dX12_findStates_317 (by decide) ?_
      refine wp_icmp_ne (pc := 318) (tgt := 332) dX12_findStates_318 rfl (fun _ => ?_) (fun q => absurd q (by dsimp only; rw [up2_at]; decide))
      refine wp_bipush (pc := 332) (v := -4) dX12_findStates_332 (by decide) ?_
      refine wp_iast (pc := 334) dX12_findStates_334 (by first | rfl | assumption | exact sh_house (by omega) | exact sh_wish (by omega) | exact sh_wor (by omega) | exact sh_bar (by omega) | exact sh_term (by omega) | exact sh_sheet (by omega) | exact sh_items (by omega) | exact sh_sums (by omega)) (vp_in_nI (by omega) (by decide)) ?_
      simp (disch := omega) only [up2_ne, ci]
      exact k _ (by first | rfl | assumption | (repeat first | assumption | rfl | refine aG_n ?_ rfl rfl)) (by first | rfl | assumption | (repeat first | assumption | rfl | refine aG_n ?_ rfl rfl)) (by first | rfl | assumption | (repeat first | assumption | rfl | refine aG_n ?_ rfl rfl))
    · refine wp_aload_n (pc := 203) dX12_findStates_203 (by first | rfl | assumption | (repeat first | assumption | rfl | refine aG_n ?_ rfl rfl)) ?_
      refine wp_getR (pc := 204) dX12_findStates_204 fl_12_101 (by first | rfl | assumption | exact sh_house (by omega) | exact sh_wish (by omega) | exact sh_wor (by omega) | exact sh_bar (by omega) | exact sh_term (by omega) | exact sh_sheet (by omega) | exact sh_items (by omega) | exact sh_sums (by omega)) rfl ?_
      refine wp_iload_n (pc := 207) dX12_findStates_207 (by first | rfl | assumption | (repeat first | assumption | rfl | refine aG_n ?_ rfl rfl)) ?_
      refine wp_iald (pc := 208) dX12_findStates_208 (by first | rfl | assumption | exact sh_house (by omega) | exact sh_wish (by omega) | exact sh_wor (by omega) | exact sh_bar (by omega) | exact sh_term (by omega) | exact sh_sheet (by omega) | exact sh_items (by omega) | exact sh_sums (by omega)) (vp_in_nI (by omega) (by decide)) ?_
      refine wp_iload_n (pc := 209) dX12_findStates_209 (by first | rfl | assumption | (repeat first | assumption | rfl | refine aG_n ?_ rfl rfl)) ?_
      refine wp_icmp_gt (pc := 210) (tgt := 217) dX12_findStates_210 rfl (fun c210_2 => ?_) (fun c210_2 => ?_)
      · refine wp_iconst (pc := 217) (v := 0) dX12_findStates_217 (by decide) ?_
        refine wp_istore (pc := 218) dX12_findStates_218 (by decide) ?_
        refine wp_aload_n (pc := 220) dX12_findStates_220 (by first | rfl | assumption | (repeat first | assumption | rfl | refine aG_n ?_ rfl rfl)) ?_
        refine wp_getR (pc := 221) dX12_findStates_221 fl_12_110 (by first | rfl | assumption | exact sh_house (by omega) | exact sh_wish (by omega) | exact sh_wor (by omega) | exact sh_bar (by omega) | exact sh_term (by omega) | exact sh_sheet (by omega) | exact sh_items (by omega) | exact sh_sums (by omega)) rfl ?_
        refine wp_iload_n (pc := 224) dX12_findStates_224 (by first | rfl | assumption | (repeat first | assumption | rfl | refine aG_n ?_ rfl rfl)) ?_
        refine wp_iald (pc := 225) dX12_findStates_225 (by first | rfl | assumption | exact sh_house (by omega) | exact sh_wish (by omega) | exact sh_wor (by omega) | exact sh_bar (by omega) | exact sh_term (by omega) | exact sh_sheet (by omega) | exact sh_items (by omega) | exact sh_sums (by omega)) (vp_in_nI (by omega) (by decide)) ?_
        refine wp_bipush (pc := 226) (v := -4) dX12_findStates_226 (by decide) ?_
        refine wp_icmp_ne (pc := 228) (tgt := 241) dX12_findStates_228 rfl (fun q => absurd (by rw [ci]; exact hE.trans c3) q) (fun _ => ?_)
        refine wp_aload_n (pc := 231) dX12_findStates_231 (by first | rfl | assumption | (repeat first | assumption | rfl | refine aG_n ?_ rfl rfl)) ?_
        refine wp_getR (pc := 232) dX12_findStates_232 fl_12_116 (by first | rfl | assumption | exact sh_house (by omega) | exact sh_wish (by omega) | exact sh_wor (by omega) | exact sh_bar (by omega) | exact sh_term (by omega) | exact sh_sheet (by omega) | exact sh_items (by omega) | exact sh_sums (by omega)) rfl ?_
        refine wp_iload_n (pc := 235) dX12_findStates_235 (by first | rfl | assumption | (repeat first | assumption | rfl | refine aG_n ?_ rfl rfl)) ?_
        refine wp_iconst (pc := 236) (v := 1) dX12_findStates_236 (by decide) ?_
        refine wp_iast (pc := 237) dX12_findStates_237 (by first | rfl | assumption | exact sh_house (by omega) | exact sh_wish (by omega) | exact sh_wor (by omega) | exact sh_bar (by omega) | exact sh_term (by omega) | exact sh_sheet (by omega) | exact sh_items (by omega) | exact sh_sums (by omega)) (vp_in_nI (by omega) (by decide)) ?_
        refine wp_goto (pc := 238) (tgt := 296) dX12_findStates_238 rfl ?_
        refine wp_aload_n (pc := 296) dX12_findStates_296 (by first | rfl | assumption | (repeat first | assumption | rfl | refine aG_n ?_ rfl rfl)) ?_
        refine wp_getR (pc := 297) dX12_findStates_297 fl_12_113 (by first | rfl | assumption | exact sh_house (by omega) | exact sh_wish (by omega) | exact sh_wor (by omega) | exact sh_bar (by omega) | exact sh_term (by omega) | exact sh_sheet (by omega) | exact sh_items (by omega) | exact sh_sums (by omega)) rfl ?_
        refine wp_iload_n (pc := 300) dX12_findStates_300 (by first | rfl | assumption | (repeat first | assumption | rfl | refine aG_n ?_ rfl rfl)) ?_
        refine wp_aload_n (pc := 301) dX12_findStates_301 (by first | rfl | assumption | (repeat first | assumption | rfl | refine aG_n ?_ rfl rfl)) ?_
        refine wp_getR (pc := 302) dX12_findStates_302 fl_12_116 (by first | rfl | assumption | exact sh_house (by omega) | exact sh_wish (by omega) | exact sh_wor (by omega) | exact sh_bar (by omega) | exact sh_term (by omega) | exact sh_sheet (by omega) | exact sh_items (by omega) | exact sh_sums (by omega)) rfl ?_
        refine wp_iload_n (pc := 305) dX12_findStates_305 (by first | rfl | assumption | (repeat first | assumption | rfl | refine aG_n ?_ rfl rfl)) ?_
        refine wp_iald (pc := 306) dX12_findStates_306 (by first | rfl | assumption | exact sh_house (by omega) | exact sh_wish (by omega) | exact sh_wor (by omega) | exact sh_bar (by omega) | exact sh_term (by omega) | exact sh_sheet (by omega) | exact sh_items (by omega) | exact sh_sums (by omega)) (vp_in_nI (by omega) (by decide)) ?_
        refine wp_iconst (pc := 307) (v := 4) dX12_findStates_307 (by decide) ?_
        refine wp_icmp_eq (pc := 308) (tgt := 321) dX12_findStates_308 rfl (fun q => absurd q (by dsimp only; rw [up2_at]; decide)) (fun _ => ?_)
        refine wp_aload_n (pc := 311) dX12_findStates_311 (by first | rfl | assumption | (repeat first | assumption | rfl | refine aG_n ?_ rfl rfl)) ?_
        refine wp_getR (pc := 312) dX12_findStates_312 fl_12_116 (by first | rfl | assumption | exact sh_house (by omega) | exact sh_wish (by omega) | exact sh_wor (by omega) | exact sh_bar (by omega) | exact sh_term (by omega) | exact sh_sheet (by omega) | exact sh_items (by omega) | exact sh_sums (by omega)) rfl ?_
        refine wp_iload_n (pc := 315) dX12_findStates_315 (by first | rfl | assumption | (repeat first | assumption | rfl | refine aG_n ?_ rfl rfl)) ?_
        refine wp_iald (pc := 316) dX12_findStates_316 (by first | rfl | assumption | exact sh_house (by omega) | exact sh_wish (by omega) | exact sh_wor (by omega) | exact sh_bar (by omega) | exact sh_term (by omega) | exact sh_sheet (by omega) | exact sh_items (by omega) | exact sh_sums (by omega)) (vp_in_nI (by omega) (by decide)) ?_
        refine wp_iconst (pc := 317) (v := 5) dX12_findStates_317 (by decide) ?_
        refine wp_icmp_ne (pc := 318) (tgt := 332) dX12_findStates_318 rfl (fun _ => ?_) (fun q => absurd q (by dsimp only; rw [up2_at]; decide))
        refine wp_bipush (pc := 332) (v := -4) dX12_findStates_332 (by decide) ?_
        refine wp_iast (pc := 334) dX12_findStates_334 (by first | rfl | assumption | exact sh_house (by omega) | exact sh_wish (by omega) | exact sh_wor (by omega) | exact sh_bar (by omega) | exact sh_term (by omega) | exact sh_sheet (by omega) | exact sh_items (by omega) | exact sh_sums (by omega)) (vp_in_nI (by omega) (by decide)) ?_
        simp (disch := omega) only [up2_ne, ci]
        exact k _ (by first | rfl | assumption | (repeat first | assumption | rfl | refine aG_n ?_ rfl rfl)) (by first | rfl | assumption | (repeat first | assumption | rfl | refine aG_n ?_ rfl rfl)) (by first | rfl | assumption | (repeat first | assumption | rfl | refine aG_n ?_ rfl rfl))
      · refine wp_iconst (pc := 213) (v := 1) dX12_findStates_213 (by decide) ?_
        refine wp_goto (pc := 214) (tgt := 218) dX12_findStates_214 rfl ?_
        refine wp_istore (pc := 218) dX12_findStates_218 (by decide) ?_
        refine wp_aload_n (pc := 220) dX12_findStates_220 (by first | rfl | assumption | (repeat first | assumption | rfl | refine aG_n ?_ rfl rfl)) ?_
        refine wp_getR (pc := 221) dX12_findStates_221 fl_12_110 (by first | rfl | assumption | exact sh_house (by omega) | exact sh_wish (by omega) | exact sh_wor (by omega) | exact sh_bar (by omega) | exact sh_term (by omega) | exact sh_sheet (by omega) | exact sh_items (by omega) | exact sh_sums (by omega)) rfl ?_
        refine wp_iload_n (pc := 224) dX12_findStates_224 (by first | rfl | assumption | (repeat first | assumption | rfl | refine aG_n ?_ rfl rfl)) ?_
        refine wp_iald (pc := 225) dX12_findStates_225 (by first | rfl | assumption | exact sh_house (by omega) | exact sh_wish (by omega) | exact sh_wor (by omega) | exact sh_bar (by omega) | exact sh_term (by omega) | exact sh_sheet (by omega) | exact sh_items (by omega) | exact sh_sums (by omega)) (vp_in_nI (by omega) (by decide)) ?_
        refine wp_bipush (pc := 226) (v := -4) dX12_findStates_226 (by decide) ?_
        refine wp_icmp_ne (pc := 228) (tgt := 241) dX12_findStates_228 rfl (fun q => absurd (by rw [ci]; exact hE.trans c3) q) (fun _ => ?_)
        refine wp_aload_n (pc := 231) dX12_findStates_231 (by first | rfl | assumption | (repeat first | assumption | rfl | refine aG_n ?_ rfl rfl)) ?_
        refine wp_getR (pc := 232) dX12_findStates_232 fl_12_116 (by first | rfl | assumption | exact sh_house (by omega) | exact sh_wish (by omega) | exact sh_wor (by omega) | exact sh_bar (by omega) | exact sh_term (by omega) | exact sh_sheet (by omega) | exact sh_items (by omega) | exact sh_sums (by omega)) rfl ?_
        refine wp_iload_n (pc := 235) dX12_findStates_235 (by first | rfl | assumption | (repeat first | assumption | rfl | refine aG_n ?_ rfl rfl)) ?_
        refine wp_iconst (pc := 236) (v := 1) dX12_findStates_236 (by decide) ?_
        refine wp_iast (pc := 237) dX12_findStates_237 (by first | rfl | assumption | exact sh_house (by omega) | exact sh_wish (by omega) | exact sh_wor (by omega) | exact sh_bar (by omega) | exact sh_term (by omega) | exact sh_sheet (by omega) | exact sh_items (by omega) | exact sh_sums (by omega)) (vp_in_nI (by omega) (by decide)) ?_
        refine wp_goto (pc := 238) (tgt := 296) dX12_findStates_238 rfl ?_
        refine wp_aload_n (pc := 296) dX12_findStates_296 (by first | rfl | assumption | (repeat first | assumption | rfl | refine aG_n ?_ rfl rfl)) ?_
        refine wp_getR (pc := 297) dX12_findStates_297 fl_12_113 (by first | rfl | assumption | exact sh_house (by omega) | exact sh_wish (by omega) | exact sh_wor (by omega) | exact sh_bar (by omega) | exact sh_term (by omega) | exact sh_sheet (by omega) | exact sh_items (by omega) | exact sh_sums (by omega)) rfl ?_
        refine wp_iload_n (pc := 300) dX12_findStates_300 (by first | rfl | assumption | (repeat first | assumption | rfl | refine aG_n ?_ rfl rfl)) ?_
        refine wp_aload_n (pc := 301) dX12_findStates_301 (by first | rfl | assumption | (repeat first | assumption | rfl | refine aG_n ?_ rfl rfl)) ?_
        refine wp_getR (pc := 302) dX12_findStates_302 fl_12_116 (by first | rfl | assumption | exact sh_house (by omega) | exact sh_wish (by omega) | exact sh_wor (by omega) | exact sh_bar (by omega) | exact sh_term (by omega) | exact sh_sheet (by omega) | exact sh_items (by omega) | exact sh_sums (by omega)) rfl ?_
        refine wp_iload_n (pc := 305) dX12_findStates_305 (by first | rfl | assumption | (repeat first | assumption | rfl | refine aG_n ?_ rfl rfl)) ?_
        refine wp_iald (pc := 306) dX12_findStates_306 (by first | rfl | assumption | exact sh_house (by omega) | exact sh_wish (by omega) | exact sh_wor (by omega) | exact sh_bar (by omega) | exact sh_term (by omega) | exact sh_sheet (by omega) | exact sh_items (by omega) | exact sh_sums (by omega)) (vp_in_nI (by omega) (by decide)) ?_
        refine wp_iconst (pc := 307) (v := 4) dX12_findStates_307 (by decide) ?_
        refine wp_icmp_eq (pc := 308) (tgt := 321) dX12_findStates_308 rfl (fun q => absurd q (by dsimp only; rw [up2_at]; decide)) (fun _ => ?_)
        refine wp_aload_n (pc := 311) dX12_findStates_311 (by first | rfl | assumption | (repeat first | assumption | rfl | refine aG_n ?_ rfl rfl)) ?_
        refine wp_getR (pc := 312) dX12_findStates_312 fl_12_116 (by first | rfl | assumption | exact sh_house (by omega) | exact sh_wish (by omega) | exact sh_wor (by omega) | exact sh_bar (by omega) | exact sh_term (by omega) | exact sh_sheet (by omega) | exact sh_items (by omega) | exact sh_sums (by omega)) rfl ?_
        refine wp_iload_n (pc := 315) dX12_findStates_315 (by first | rfl | assumption | (repeat first | assumption | rfl | refine aG_n ?_ rfl rfl)) ?_
        refine wp_iald (pc := 316) dX12_findStates_316 (by first | rfl | assumption | exact sh_house (by omega) | exact sh_wish (by omega) | exact sh_wor (by omega) | exact sh_bar (by omega) | exact sh_term (by omega) | exact sh_sheet (by omega) | exact sh_items (by omega) | exact sh_sums (by omega)) (vp_in_nI (by omega) (by decide)) ?_
        refine wp_iconst (pc := 317) (v := 5) dX12_findStates_317 (by decide) ?_
        refine wp_icmp_ne (pc := 318) (tgt := 332) dX12_findStates_318 rfl (fun _ => ?_) (fun q => absurd q (by dsimp only; rw [up2_at]; decide))
        refine wp_bipush (pc := 332) (v := -4) dX12_findStates_332 (by decide) ?_
        refine wp_iast (pc := 334) dX12_findStates_334 (by first | rfl | assumption | exact sh_house (by omega) | exact sh_wish (by omega) | exact sh_wor (by omega) | exact sh_bar (by omega) | exact sh_term (by omega) | exact sh_sheet (by omega) | exact sh_items (by omega) | exact sh_sums (by omega)) (vp_in_nI (by omega) (by decide)) ?_
        simp (disch := omega) only [up2_ne, ci]
        exact k _ (by first | rfl | assumption | (repeat first | assumption | rfl | refine aG_n ?_ rfl rfl)) (by first | rfl | assumption | (repeat first | assumption | rfl | refine aG_n ?_ rfl rfl)) (by first | rfl | assumption | (repeat first | assumption | rfl | refine aG_n ?_ rfl rfl))
  · have n4 : ¬ μ.1 120 (nI i).toNatClampNeg = -4 := by rw [ci, hE]; exact c3
    by_cases c4 : pdP μ.1 i h
    · by_cases c5 : μ.1 117 i ≤ e
      · have sv : stV μ.1 h e i = 3 := by unfold stV; rw [if_neg n3, if_neg c3, if_pos c4, if_pos c5]
        have bv : brV μ.1 h e i = -4 := by unfold brV; rw [sv]; exact if_neg (by decide)
        rw [sv, bv] at k
        refine wp_aload_n (pc := 192) dX12_findStates_192 (by first | rfl | assumption | (repeat first | assumption | rfl | refine aG_n ?_ rfl rfl)) ?_
        refine wp_getR (pc := 193) dX12_findStates_193 fl_12_101 (by first | rfl | assumption | exact sh_house (by omega) | exact sh_wish (by omega) | exact sh_wor (by omega) | exact sh_bar (by omega) | exact sh_term (by omega) | exact sh_sheet (by omega) | exact sh_items (by omega) | exact sh_sums (by omega)) rfl ?_
        refine wp_iload_n (pc := 196) dX12_findStates_196 (by first | rfl | assumption | (repeat first | assumption | rfl | refine aG_n ?_ rfl rfl)) ?_
        refine wp_iald (pc := 197) dX12_findStates_197 (by first | rfl | assumption | exact sh_house (by omega) | exact sh_wish (by omega) | exact sh_wor (by omega) | exact sh_bar (by omega) | exact sh_term (by omega) | exact sh_sheet (by omega) | exact sh_items (by omega) | exact sh_sums (by omega)) (vp_in_nI (by omega) (by decide)) ?_
        refine wp_bipush (pc := 198) (v := -4) dX12_findStates_198 (by decide) ?_
        refine wp_icmp_eq (pc := 200) (tgt := 217) dX12_findStates_200 rfl (fun q => absurd q (by rw [ci]; exact c4.1)) (fun _ => ?_)
        refine wp_aload_n (pc := 203) dX12_findStates_203 (by first | rfl | assumption | (repeat first | assumption | rfl | refine aG_n ?_ rfl rfl)) ?_
        refine wp_getR (pc := 204) dX12_findStates_204 fl_12_101 (by first | rfl | assumption | exact sh_house (by omega) | exact sh_wish (by omega) | exact sh_wor (by omega) | exact sh_bar (by omega) | exact sh_term (by omega) | exact sh_sheet (by omega) | exact sh_items (by omega) | exact sh_sums (by omega)) rfl ?_
        refine wp_iload_n (pc := 207) dX12_findStates_207 (by first | rfl | assumption | (repeat first | assumption | rfl | refine aG_n ?_ rfl rfl)) ?_
        refine wp_iald (pc := 208) dX12_findStates_208 (by first | rfl | assumption | exact sh_house (by omega) | exact sh_wish (by omega) | exact sh_wor (by omega) | exact sh_bar (by omega) | exact sh_term (by omega) | exact sh_sheet (by omega) | exact sh_items (by omega) | exact sh_sums (by omega)) (vp_in_nI (by omega) (by decide)) ?_
        refine wp_iload_n (pc := 209) dX12_findStates_209 (by first | rfl | assumption | (repeat first | assumption | rfl | refine aG_n ?_ rfl rfl)) ?_
        refine wp_icmp_gt (pc := 210) (tgt := 217) dX12_findStates_210 rfl (fun q => absurd q (by rw [ci]; exact fun z => i_nle z c4.2)) (fun _ => ?_)
        refine wp_iconst (pc := 213) (v := 1) dX12_findStates_213 (by decide) ?_
        refine wp_goto (pc := 214) (tgt := 218) dX12_findStates_214 rfl ?_
        refine wp_istore (pc := 218) dX12_findStates_218 (by decide) ?_
        refine wp_aload_n (pc := 220) dX12_findStates_220 (by first | rfl | assumption | (repeat first | assumption | rfl | refine aG_n ?_ rfl rfl)) ?_
        refine wp_getR (pc := 221) dX12_findStates_221 fl_12_110 (by first | rfl | assumption | exact sh_house (by omega) | exact sh_wish (by omega) | exact sh_wor (by omega) | exact sh_bar (by omega) | exact sh_term (by omega) | exact sh_sheet (by omega) | exact sh_items (by omega) | exact sh_sums (by omega)) rfl ?_
        refine wp_iload_n (pc := 224) dX12_findStates_224 (by first | rfl | assumption | (repeat first | assumption | rfl | refine aG_n ?_ rfl rfl)) ?_
        refine wp_iald (pc := 225) dX12_findStates_225 (by first | rfl | assumption | exact sh_house (by omega) | exact sh_wish (by omega) | exact sh_wor (by omega) | exact sh_bar (by omega) | exact sh_term (by omega) | exact sh_sheet (by omega) | exact sh_items (by omega) | exact sh_sums (by omega)) (vp_in_nI (by omega) (by decide)) ?_
        refine wp_bipush (pc := 226) (v := -4) dX12_findStates_226 (by decide) ?_
        refine wp_icmp_ne (pc := 228) (tgt := 241) dX12_findStates_228 rfl (fun _ => ?_) (fun q => absurd q n4)
        refine wp_iload (pc := 241) dX12_findStates_241 (by first | rfl | assumption | (repeat first | assumption | rfl | refine aG_n ?_ rfl rfl)) ?_
        refine wp_if_eq (pc := 243) (tgt := 275) dX12_findStates_243 rfl (fun q => absurd q (by decide)) (fun _ => ?_)
        refine wp_aload_n (pc := 246) dX12_findStates_246 (by first | rfl | assumption | (repeat first | assumption | rfl | refine aG_n ?_ rfl rfl)) ?_
        refine wp_getR (pc := 247) dX12_findStates_247 fl_12_116 (by first | rfl | assumption | exact sh_house (by omega) | exact sh_wish (by omega) | exact sh_wor (by omega) | exact sh_bar (by omega) | exact sh_term (by omega) | exact sh_sheet (by omega) | exact sh_items (by omega) | exact sh_sums (by omega)) rfl ?_
        refine wp_iload_n (pc := 250) dX12_findStates_250 (by first | rfl | assumption | (repeat first | assumption | rfl | refine aG_n ?_ rfl rfl)) ?_
        refine wp_aload_n (pc := 251) dX12_findStates_251 (by first | rfl | assumption | (repeat first | assumption | rfl | refine aG_n ?_ rfl rfl)) ?_
        refine wp_getR (pc := 252) dX12_findStates_252 fl_12_101 (by first | rfl | assumption | exact sh_house (by omega) | exact sh_wish (by omega) | exact sh_wor (by omega) | exact sh_bar (by omega) | exact sh_term (by omega) | exact sh_sheet (by omega) | exact sh_items (by omega) | exact sh_sums (by omega)) rfl ?_
        refine wp_iload_n (pc := 255) dX12_findStates_255 (by first | rfl | assumption | (repeat first | assumption | rfl | refine aG_n ?_ rfl rfl)) ?_
        refine wp_iald (pc := 256) dX12_findStates_256 (by first | rfl | assumption | exact sh_house (by omega) | exact sh_wish (by omega) | exact sh_wor (by omega) | exact sh_bar (by omega) | exact sh_term (by omega) | exact sh_sheet (by omega) | exact sh_items (by omega) | exact sh_sums (by omega)) (vp_in_nI (by omega) (by decide)) ?_
        refine wp_aload_n (pc := 257) dX12_findStates_257 (by first | rfl | assumption | (repeat first | assumption | rfl | refine aG_n ?_ rfl rfl)) ?_
        refine wp_getR (pc := 258) dX12_findStates_258 fl_12_110 (by first | rfl | assumption | exact sh_house (by omega) | exact sh_wish (by omega) | exact sh_wor (by omega) | exact sh_bar (by omega) | exact sh_term (by omega) | exact sh_sheet (by omega) | exact sh_items (by omega) | exact sh_sums (by omega)) rfl ?_
        refine wp_iload_n (pc := 261) dX12_findStates_261 (by first | rfl | assumption | (repeat first | assumption | rfl | refine aG_n ?_ rfl rfl)) ?_
        refine wp_iald (pc := 262) dX12_findStates_262 (by first | rfl | assumption | exact sh_house (by omega) | exact sh_wish (by omega) | exact sh_wor (by omega) | exact sh_bar (by omega) | exact sh_term (by omega) | exact sh_sheet (by omega) | exact sh_items (by omega) | exact sh_sums (by omega)) (vp_in_nI (by omega) (by decide)) ?_
        refine wp_icmp_gt (pc := 263) (tgt := 270) dX12_findStates_263 rfl (fun q => absurd q (by rw [ci, hE]; exact fun z => i_nle z c5)) (fun _ => ?_)
        refine wp_iconst (pc := 266) (v := 3) dX12_findStates_266 (by decide) ?_
        refine wp_goto (pc := 267) (tgt := 271) dX12_findStates_267 rfl ?_
        refine wp_iast (pc := 271) dX12_findStates_271 (by first | rfl | assumption | exact sh_house (by omega) | exact sh_wish (by omega) | exact sh_wor (by omega) | exact sh_bar (by omega) | exact sh_term (by omega) | exact sh_sheet (by omega) | exact sh_items (by omega) | exact sh_sums (by omega)) (vp_in_nI (by omega) (by decide)) ?_
        refine wp_goto (pc := 272) (tgt := 296) dX12_findStates_272 rfl ?_
        refine wp_aload_n (pc := 296) dX12_findStates_296 (by first | rfl | assumption | (repeat first | assumption | rfl | refine aG_n ?_ rfl rfl)) ?_
        refine wp_getR (pc := 297) dX12_findStates_297 fl_12_113 (by first | rfl | assumption | exact sh_house (by omega) | exact sh_wish (by omega) | exact sh_wor (by omega) | exact sh_bar (by omega) | exact sh_term (by omega) | exact sh_sheet (by omega) | exact sh_items (by omega) | exact sh_sums (by omega)) rfl ?_
        refine wp_iload_n (pc := 300) dX12_findStates_300 (by first | rfl | assumption | (repeat first | assumption | rfl | refine aG_n ?_ rfl rfl)) ?_
        refine wp_aload_n (pc := 301) dX12_findStates_301 (by first | rfl | assumption | (repeat first | assumption | rfl | refine aG_n ?_ rfl rfl)) ?_
        refine wp_getR (pc := 302) dX12_findStates_302 fl_12_116 (by first | rfl | assumption | exact sh_house (by omega) | exact sh_wish (by omega) | exact sh_wor (by omega) | exact sh_bar (by omega) | exact sh_term (by omega) | exact sh_sheet (by omega) | exact sh_items (by omega) | exact sh_sums (by omega)) rfl ?_
        refine wp_iload_n (pc := 305) dX12_findStates_305 (by first | rfl | assumption | (repeat first | assumption | rfl | refine aG_n ?_ rfl rfl)) ?_
        refine wp_iald (pc := 306) dX12_findStates_306 (by first | rfl | assumption | exact sh_house (by omega) | exact sh_wish (by omega) | exact sh_wor (by omega) | exact sh_bar (by omega) | exact sh_term (by omega) | exact sh_sheet (by omega) | exact sh_items (by omega) | exact sh_sums (by omega)) (vp_in_nI (by omega) (by decide)) ?_
        refine wp_iconst (pc := 307) (v := 4) dX12_findStates_307 (by decide) ?_
        refine wp_icmp_eq (pc := 308) (tgt := 321) dX12_findStates_308 rfl (fun q => absurd q (by dsimp only; rw [up2_at]; decide)) (fun _ => ?_)
        refine wp_aload_n (pc := 311) dX12_findStates_311 (by first | rfl | assumption | (repeat first | assumption | rfl | refine aG_n ?_ rfl rfl)) ?_
        refine wp_getR (pc := 312) dX12_findStates_312 fl_12_116 (by first | rfl | assumption | exact sh_house (by omega) | exact sh_wish (by omega) | exact sh_wor (by omega) | exact sh_bar (by omega) | exact sh_term (by omega) | exact sh_sheet (by omega) | exact sh_items (by omega) | exact sh_sums (by omega)) rfl ?_
        refine wp_iload_n (pc := 315) dX12_findStates_315 (by first | rfl | assumption | (repeat first | assumption | rfl | refine aG_n ?_ rfl rfl)) ?_
        refine wp_iald (pc := 316) dX12_findStates_316 (by first | rfl | assumption | exact sh_house (by omega) | exact sh_wish (by omega) | exact sh_wor (by omega) | exact sh_bar (by omega) | exact sh_term (by omega) | exact sh_sheet (by omega) | exact sh_items (by omega) | exact sh_sums (by omega)) (vp_in_nI (by omega) (by decide)) ?_
        refine wp_iconst (pc := 317) (v := 5) dX12_findStates_317 (by decide) ?_
        refine wp_icmp_ne (pc := 318) (tgt := 332) dX12_findStates_318 rfl (fun _ => ?_) (fun q => absurd q (by dsimp only; rw [up2_at]; decide))
        refine wp_bipush (pc := 332) (v := -4) dX12_findStates_332 (by decide) ?_
        refine wp_iast (pc := 334) dX12_findStates_334 (by first | rfl | assumption | exact sh_house (by omega) | exact sh_wish (by omega) | exact sh_wor (by omega) | exact sh_bar (by omega) | exact sh_term (by omega) | exact sh_sheet (by omega) | exact sh_items (by omega) | exact sh_sums (by omega)) (vp_in_nI (by omega) (by decide)) ?_
        simp (disch := omega) only [up2_ne, ci]
        exact k _ (by first | rfl | assumption | (repeat first | assumption | rfl | refine aG_n ?_ rfl rfl)) (by first | rfl | assumption | (repeat first | assumption | rfl | refine aG_n ?_ rfl rfl)) (by first | rfl | assumption | (repeat first | assumption | rfl | refine aG_n ?_ rfl rfl))
      · have sv : stV μ.1 h e i = 5 := by unfold stV; rw [if_neg n3, if_neg c3, if_pos c4, if_neg c5]
        have bv : brV μ.1 h e i = e + 1 := by unfold brV; rw [sv, if_pos (by decide), if_neg n3]
        rw [sv, bv] at k
        refine wp_aload_n (pc := 192) dX12_findStates_192 (by first | rfl | assumption | (repeat first | assumption | rfl | refine aG_n ?_ rfl rfl)) ?_
        refine wp_getR (pc := 193) dX12_findStates_193 fl_12_101 (by first | rfl | assumption | exact sh_house (by omega) | exact sh_wish (by omega) | exact sh_wor (by omega) | exact sh_bar (by omega) | exact sh_term (by omega) | exact sh_sheet (by omega) | exact sh_items (by omega) | exact sh_sums (by omega)) rfl ?_
        refine wp_iload_n (pc := 196) dX12_findStates_196 (by first | rfl | assumption | (repeat first | assumption | rfl | refine aG_n ?_ rfl rfl)) ?_
        refine wp_iald (pc := 197) dX12_findStates_197 (by first | rfl | assumption | exact sh_house (by omega) | exact sh_wish (by omega) | exact sh_wor (by omega) | exact sh_bar (by omega) | exact sh_term (by omega) | exact sh_sheet (by omega) | exact sh_items (by omega) | exact sh_sums (by omega)) (vp_in_nI (by omega) (by decide)) ?_
        refine wp_bipush (pc := 198) (v := -4) dX12_findStates_198 (by decide) ?_
        refine wp_icmp_eq (pc := 200) (tgt := 217) dX12_findStates_200 rfl (fun q => absurd q (by rw [ci]; exact c4.1)) (fun _ => ?_)
        refine wp_aload_n (pc := 203) dX12_findStates_203 (by first | rfl | assumption | (repeat first | assumption | rfl | refine aG_n ?_ rfl rfl)) ?_
        refine wp_getR (pc := 204) dX12_findStates_204 fl_12_101 (by first | rfl | assumption | exact sh_house (by omega) | exact sh_wish (by omega) | exact sh_wor (by omega) | exact sh_bar (by omega) | exact sh_term (by omega) | exact sh_sheet (by omega) | exact sh_items (by omega) | exact sh_sums (by omega)) rfl ?_
        refine wp_iload_n (pc := 207) dX12_findStates_207 (by first | rfl | assumption | (repeat first | assumption | rfl | refine aG_n ?_ rfl rfl)) ?_
        refine wp_iald (pc := 208) dX12_findStates_208 (by first | rfl | assumption | exact sh_house (by omega) | exact sh_wish (by omega) | exact sh_wor (by omega) | exact sh_bar (by omega) | exact sh_term (by omega) | exact sh_sheet (by omega) | exact sh_items (by omega) | exact sh_sums (by omega)) (vp_in_nI (by omega) (by decide)) ?_
        refine wp_iload_n (pc := 209) dX12_findStates_209 (by first | rfl | assumption | (repeat first | assumption | rfl | refine aG_n ?_ rfl rfl)) ?_
        refine wp_icmp_gt (pc := 210) (tgt := 217) dX12_findStates_210 rfl (fun q => absurd q (by rw [ci]; exact fun z => i_nle z c4.2)) (fun _ => ?_)
        refine wp_iconst (pc := 213) (v := 1) dX12_findStates_213 (by decide) ?_
        refine wp_goto (pc := 214) (tgt := 218) dX12_findStates_214 rfl ?_
        refine wp_istore (pc := 218) dX12_findStates_218 (by decide) ?_
        refine wp_aload_n (pc := 220) dX12_findStates_220 (by first | rfl | assumption | (repeat first | assumption | rfl | refine aG_n ?_ rfl rfl)) ?_
        refine wp_getR (pc := 221) dX12_findStates_221 fl_12_110 (by first | rfl | assumption | exact sh_house (by omega) | exact sh_wish (by omega) | exact sh_wor (by omega) | exact sh_bar (by omega) | exact sh_term (by omega) | exact sh_sheet (by omega) | exact sh_items (by omega) | exact sh_sums (by omega)) rfl ?_
        refine wp_iload_n (pc := 224) dX12_findStates_224 (by first | rfl | assumption | (repeat first | assumption | rfl | refine aG_n ?_ rfl rfl)) ?_
        refine wp_iald (pc := 225) dX12_findStates_225 (by first | rfl | assumption | exact sh_house (by omega) | exact sh_wish (by omega) | exact sh_wor (by omega) | exact sh_bar (by omega) | exact sh_term (by omega) | exact sh_sheet (by omega) | exact sh_items (by omega) | exact sh_sums (by omega)) (vp_in_nI (by omega) (by decide)) ?_
        refine wp_bipush (pc := 226) (v := -4) dX12_findStates_226 (by decide) ?_
        refine wp_icmp_ne (pc := 228) (tgt := 241) dX12_findStates_228 rfl (fun _ => ?_) (fun q => absurd q n4)
        refine wp_iload (pc := 241) dX12_findStates_241 (by first | rfl | assumption | (repeat first | assumption | rfl | refine aG_n ?_ rfl rfl)) ?_
        refine wp_if_eq (pc := 243) (tgt := 275) dX12_findStates_243 rfl (fun q => absurd q (by decide)) (fun _ => ?_)
        refine wp_aload_n (pc := 246) dX12_findStates_246 (by first | rfl | assumption | (repeat first | assumption | rfl | refine aG_n ?_ rfl rfl)) ?_
        refine wp_getR (pc := 247) dX12_findStates_247 fl_12_116 (by first | rfl | assumption | exact sh_house (by omega) | exact sh_wish (by omega) | exact sh_wor (by omega) | exact sh_bar (by omega) | exact sh_term (by omega) | exact sh_sheet (by omega) | exact sh_items (by omega) | exact sh_sums (by omega)) rfl ?_
        refine wp_iload_n (pc := 250) dX12_findStates_250 (by first | rfl | assumption | (repeat first | assumption | rfl | refine aG_n ?_ rfl rfl)) ?_
        refine wp_aload_n (pc := 251) dX12_findStates_251 (by first | rfl | assumption | (repeat first | assumption | rfl | refine aG_n ?_ rfl rfl)) ?_
        refine wp_getR (pc := 252) dX12_findStates_252 fl_12_101 (by first | rfl | assumption | exact sh_house (by omega) | exact sh_wish (by omega) | exact sh_wor (by omega) | exact sh_bar (by omega) | exact sh_term (by omega) | exact sh_sheet (by omega) | exact sh_items (by omega) | exact sh_sums (by omega)) rfl ?_
        refine wp_iload_n (pc := 255) dX12_findStates_255 (by first | rfl | assumption | (repeat first | assumption | rfl | refine aG_n ?_ rfl rfl)) ?_
        refine wp_iald (pc := 256) dX12_findStates_256 (by first | rfl | assumption | exact sh_house (by omega) | exact sh_wish (by omega) | exact sh_wor (by omega) | exact sh_bar (by omega) | exact sh_term (by omega) | exact sh_sheet (by omega) | exact sh_items (by omega) | exact sh_sums (by omega)) (vp_in_nI (by omega) (by decide)) ?_
        refine wp_aload_n (pc := 257) dX12_findStates_257 (by first | rfl | assumption | (repeat first | assumption | rfl | refine aG_n ?_ rfl rfl)) ?_
        refine wp_getR (pc := 258) dX12_findStates_258 fl_12_110 (by first | rfl | assumption | exact sh_house (by omega) | exact sh_wish (by omega) | exact sh_wor (by omega) | exact sh_bar (by omega) | exact sh_term (by omega) | exact sh_sheet (by omega) | exact sh_items (by omega) | exact sh_sums (by omega)) rfl ?_
        refine wp_iload_n (pc := 261) dX12_findStates_261 (by first | rfl | assumption | (repeat first | assumption | rfl | refine aG_n ?_ rfl rfl)) ?_
        refine wp_iald (pc := 262) dX12_findStates_262 (by first | rfl | assumption | exact sh_house (by omega) | exact sh_wish (by omega) | exact sh_wor (by omega) | exact sh_bar (by omega) | exact sh_term (by omega) | exact sh_sheet (by omega) | exact sh_items (by omega) | exact sh_sums (by omega)) (vp_in_nI (by omega) (by decide)) ?_
        refine wp_icmp_gt (pc := 263) (tgt := 270) dX12_findStates_263 rfl (fun _ => ?_) (fun q => absurd (by rw [ci, hE]; exact i_nle2 c5) q)
        refine wp_iconst (pc := 270) (v := 5) dX12_findStates_270 (by decide) ?_
        refine wp_iast (pc := 271) dX12_findStates_271 (by first | rfl | assumption | exact sh_house (by omega) | exact sh_wish (by omega) | exact sh_wor (by omega) | exact sh_bar (by omega) | exact sh_term (by omega) | exact sh_sheet (by omega) | exact sh_items (by omega) | exact sh_sums (by omega)) (vp_in_nI (by omega) (by decide)) ?_
        refine wp_goto (pc := 272) (tgt := 296) dX12_findStates_272 rfl ?_
        refine wp_aload_n (pc := 296) dX12_findStates_296 (by first | rfl | assumption | (repeat first | assumption | rfl | refine aG_n ?_ rfl rfl)) ?_
        refine wp_getR (pc := 297) dX12_findStates_297 fl_12_113 (by first | rfl | assumption | exact sh_house (by omega) | exact sh_wish (by omega) | exact sh_wor (by omega) | exact sh_bar (by omega) | exact sh_term (by omega) | exact sh_sheet (by omega) | exact sh_items (by omega) | exact sh_sums (by omega)) rfl ?_
        refine wp_iload_n (pc := 300) dX12_findStates_300 (by first | rfl | assumption | (repeat first | assumption | rfl | refine aG_n ?_ rfl rfl)) ?_
        refine wp_aload_n (pc := 301) dX12_findStates_301 (by first | rfl | assumption | (repeat first | assumption | rfl | refine aG_n ?_ rfl rfl)) ?_
        refine wp_getR (pc := 302) dX12_findStates_302 fl_12_116 (by first | rfl | assumption | exact sh_house (by omega) | exact sh_wish (by omega) | exact sh_wor (by omega) | exact sh_bar (by omega) | exact sh_term (by omega) | exact sh_sheet (by omega) | exact sh_items (by omega) | exact sh_sums (by omega)) rfl ?_
        refine wp_iload_n (pc := 305) dX12_findStates_305 (by first | rfl | assumption | (repeat first | assumption | rfl | refine aG_n ?_ rfl rfl)) ?_
        refine wp_iald (pc := 306) dX12_findStates_306 (by first | rfl | assumption | exact sh_house (by omega) | exact sh_wish (by omega) | exact sh_wor (by omega) | exact sh_bar (by omega) | exact sh_term (by omega) | exact sh_sheet (by omega) | exact sh_items (by omega) | exact sh_sums (by omega)) (vp_in_nI (by omega) (by decide)) ?_
        refine wp_iconst (pc := 307) (v := 4) dX12_findStates_307 (by decide) ?_
        refine wp_icmp_eq (pc := 308) (tgt := 321) dX12_findStates_308 rfl (fun q => absurd q (by dsimp only; rw [up2_at]; decide)) (fun _ => ?_)
        refine wp_aload_n (pc := 311) dX12_findStates_311 (by first | rfl | assumption | (repeat first | assumption | rfl | refine aG_n ?_ rfl rfl)) ?_
        refine wp_getR (pc := 312) dX12_findStates_312 fl_12_116 (by first | rfl | assumption | exact sh_house (by omega) | exact sh_wish (by omega) | exact sh_wor (by omega) | exact sh_bar (by omega) | exact sh_term (by omega) | exact sh_sheet (by omega) | exact sh_items (by omega) | exact sh_sums (by omega)) rfl ?_
        refine wp_iload_n (pc := 315) dX12_findStates_315 (by first | rfl | assumption | (repeat first | assumption | rfl | refine aG_n ?_ rfl rfl)) ?_
        refine wp_iald (pc := 316) dX12_findStates_316 (by first | rfl | assumption | exact sh_house (by omega) | exact sh_wish (by omega) | exact sh_wor (by omega) | exact sh_bar (by omega) | exact sh_term (by omega) | exact sh_sheet (by omega) | exact sh_items (by omega) | exact sh_sums (by omega)) (vp_in_nI (by omega) (by decide)) ?_
        refine wp_iconst (pc := 317) (v := 5) dX12_findStates_317 (by decide) ?_
        refine wp_icmp_ne (pc := 318) (tgt := 332) dX12_findStates_318 rfl (fun q => absurd (by dsimp only; rw [up2_at]) q) (fun _ => ?_)
        refine wp_aload_n (pc := 321) dX12_findStates_321 (by first | rfl | assumption | (repeat first | assumption | rfl | refine aG_n ?_ rfl rfl)) ?_
        refine wp_getR (pc := 322) dX12_findStates_322 fl_12_110 (by first | rfl | assumption | exact sh_house (by omega) | exact sh_wish (by omega) | exact sh_wor (by omega) | exact sh_bar (by omega) | exact sh_term (by omega) | exact sh_sheet (by omega) | exact sh_items (by omega) | exact sh_sums (by omega)) rfl ?_
        refine wp_iload_n (pc := 325) dX12_findStates_325 (by first | rfl | assumption | (repeat first | assumption | rfl | refine aG_n ?_ rfl rfl)) ?_
        refine wp_iald (pc := 326) dX12_findStates_326 (by first | rfl | assumption | exact sh_house (by omega) | exact sh_wish (by omega) | exact sh_wor (by omega) | exact sh_bar (by omega) | exact sh_term (by omega) | exact sh_sheet (by omega) | exact sh_items (by omega) | exact sh_sums (by omega)) (vp_in_nI (by omega) (by decide)) ?_
        refine wp_iconst (pc := 327) (v := 1) dX12_findStates_327 (by decide) ?_
        refine wp_iadd (pc := 328) dX12_findStates_328 ?_
        refine wp_goto (pc := 329) (tgt := 334) dX12_findStates_329 rfl ?_
        refine wp_iast (pc := 334) dX12_findStates_334 (by first | rfl | assumption | exact sh_house (by omega) | exact sh_wish (by omega) | exact sh_wor (by omega) | exact sh_bar (by omega) | exact sh_term (by omega) | exact sh_sheet (by omega) | exact sh_items (by omega) | exact sh_sums (by omega)) (vp_in_nI (by omega) (by decide)) ?_
        simp (disch := omega) only [up2_ne, ci, hE]
        exact k _ (by first | rfl | assumption | (repeat first | assumption | rfl | refine aG_n ?_ rfl rfl)) (by first | rfl | assumption | (repeat first | assumption | rfl | refine aG_n ?_ rfl rfl)) (by first | rfl | assumption | (repeat first | assumption | rfl | refine aG_n ?_ rfl rfl))
    · have pd : (μ.1 117 i = -4) ∨ (¬ μ.1 117 i = -4 ∧ h < μ.1 117 i) := by
        by_cases z : μ.1 117 i = -4
        · exact Or.inl z
        · exact Or.inr ⟨z, i_nle2 (fun y => c4 ⟨z, y⟩)⟩
      by_cases c6 : e < h
      · have sv : stV μ.1 h e i = 4 := by unfold stV; rw [if_neg n3, if_neg c3, if_neg c4, if_pos c6]
        have bv : brV μ.1 h e i = e + 1 := by unfold brV; rw [sv, if_pos (by decide), if_neg n3]
        rw [sv, bv] at k
        rcases pd with pd | pd
        · refine wp_aload_n (pc := 192) dX12_findStates_192 (by first | rfl | assumption | (repeat first | assumption | rfl | refine aG_n ?_ rfl rfl)) ?_
          refine wp_getR (pc := 193) dX12_findStates_193 fl_12_101 (by first | rfl | assumption | exact sh_house (by omega) | exact sh_wish (by omega) | exact sh_wor (by omega) | exact sh_bar (by omega) | exact sh_term (by omega) | exact sh_sheet (by omega) | exact sh_items (by omega) | exact sh_sums (by omega)) rfl ?_
          refine wp_iload_n (pc := 196) dX12_findStates_196 (by first | rfl | assumption | (repeat first | assumption | rfl | refine aG_n ?_ rfl rfl)) ?_
          refine wp_iald (pc := 197) dX12_findStates_197 (by first | rfl | assumption | exact sh_house (by omega) | exact sh_wish (by omega) | exact sh_wor (by omega) | exact sh_bar (by omega) | exact sh_term (by omega) | exact sh_sheet (by omega) | exact sh_items (by omega) | exact sh_sums (by omega)) (vp_in_nI (by omega) (by decide)) ?_
          refine wp_bipush (pc := 198) (v := -4) dX12_findStates_198 (by decide) ?_
          refine wp_icmp_eq (pc := 200) (tgt := 217) dX12_findStates_200 rfl (fun _ => ?_) (fun q => absurd (by rw [ci]; exact pd) q)
          refine wp_iconst (pc := 217) (v := 0) dX12_findStates_217 (by decide) ?_
          refine wp_istore (pc := 218) dX12_findStates_218 (by decide) ?_
          refine wp_aload_n (pc := 220) dX12_findStates_220 (by first | rfl | assumption | (repeat first | assumption | rfl | refine aG_n ?_ rfl rfl)) ?_
          refine wp_getR (pc := 221) dX12_findStates_221 fl_12_110 (by first | rfl | assumption | exact sh_house (by omega) | exact sh_wish (by omega) | exact sh_wor (by omega) | exact sh_bar (by omega) | exact sh_term (by omega) | exact sh_sheet (by omega) | exact sh_items (by omega) | exact sh_sums (by omega)) rfl ?_
          refine wp_iload_n (pc := 224) dX12_findStates_224 (by first | rfl | assumption | (repeat first | assumption | rfl | refine aG_n ?_ rfl rfl)) ?_
          refine wp_iald (pc := 225) dX12_findStates_225 (by first | rfl | assumption | exact sh_house (by omega) | exact sh_wish (by omega) | exact sh_wor (by omega) | exact sh_bar (by omega) | exact sh_term (by omega) | exact sh_sheet (by omega) | exact sh_items (by omega) | exact sh_sums (by omega)) (vp_in_nI (by omega) (by decide)) ?_
          refine wp_bipush (pc := 226) (v := -4) dX12_findStates_226 (by decide) ?_
          refine wp_icmp_ne (pc := 228) (tgt := 241) dX12_findStates_228 rfl (fun _ => ?_) (fun q => absurd q n4)
          refine wp_iload (pc := 241) dX12_findStates_241 (by first | rfl | assumption | (repeat first | assumption | rfl | refine aG_n ?_ rfl rfl)) ?_
          refine wp_if_eq (pc := 243) (tgt := 275) dX12_findStates_243 rfl (fun _ => ?_) (fun q => absurd q (by decide))
          refine wp_aload_n (pc := 275) dX12_findStates_275 (by first | rfl | assumption | (repeat first | assumption | rfl | refine aG_n ?_ rfl rfl)) ?_
          refine wp_getR (pc := 276) dX12_findStates_276 fl_12_116 (by first | rfl | assumption | exact sh_house (by omega) | exact sh_wish (by omega) | exact sh_wor (by omega) | exact sh_bar (by omega) | exact sh_term (by omega) | exact sh_sheet (by omega) | exact sh_items (by omega) | exact sh_sums (by omega)) rfl ?_
          refine wp_iload_n (pc := 279) dX12_findStates_279 (by first | rfl | assumption | (repeat first | assumption | rfl | refine aG_n ?_ rfl rfl)) ?_
          refine wp_iload_n (pc := 280) dX12_findStates_280 (by first | rfl | assumption | (repeat first | assumption | rfl | refine aG_n ?_ rfl rfl)) ?_
          refine wp_aload_n (pc := 281) dX12_findStates_281 (by first | rfl | assumption | (repeat first | assumption | rfl | refine aG_n ?_ rfl rfl)) ?_
          refine wp_getR (pc := 282) dX12_findStates_282 fl_12_110 (by first | rfl | assumption | exact sh_house (by omega) | exact sh_wish (by omega) | exact sh_wor (by omega) | exact sh_bar (by omega) | exact sh_term (by omega) | exact sh_sheet (by omega) | exact sh_items (by omega) | exact sh_sums (by omega)) rfl ?_
          refine wp_iload_n (pc := 285) dX12_findStates_285 (by first | rfl | assumption | (repeat first | assumption | rfl | refine aG_n ?_ rfl rfl)) ?_
          refine wp_iald (pc := 286) dX12_findStates_286 (by first | rfl | assumption | exact sh_house (by omega) | exact sh_wish (by omega) | exact sh_wor (by omega) | exact sh_bar (by omega) | exact sh_term (by omega) | exact sh_sheet (by omega) | exact sh_items (by omega) | exact sh_sums (by omega)) (vp_in_nI (by omega) (by decide)) ?_
          refine wp_icmp_le (pc := 287) (tgt := 294) dX12_findStates_287 rfl (fun q => absurd q (by rw [ci, hE]; exact fun z => i_nle c6 z)) (fun _ => ?_)
          refine wp_iconst (pc := 290) (v := 4) dX12_findStates_290 (by decide) ?_
          refine wp_goto (pc := 291) (tgt := 295) dX12_findStates_291 rfl ?_
          refine wp_iast (pc := 295) dX12_findStates_295 (by first | rfl | assumption | exact sh_house (by omega) | exact sh_wish (by omega) | exact sh_wor (by omega) | exact sh_bar (by omega) | exact sh_term (by omega) | exact sh_sheet (by omega) | exact sh_items (by omega) | exact sh_sums (by omega)) (vp_in_nI (by omega) (by decide)) ?_
          refine wp_aload_n (pc := 296) dX12_findStates_296 (by first | rfl | assumption | (repeat first | assumption | rfl | refine aG_n ?_ rfl rfl)) ?_
          refine wp_getR (pc := 297) dX12_findStates_297 fl_12_113 (by first | rfl | assumption | exact sh_house (by omega) | exact sh_wish (by omega) | exact sh_wor (by omega) | exact sh_bar (by omega) | exact sh_term (by omega) | exact sh_sheet (by omega) | exact sh_items (by omega) | exact sh_sums (by omega)) rfl ?_
          refine wp_iload_n (pc := 300) dX12_findStates_300 (by first | rfl | assumption | (repeat first | assumption | rfl | refine aG_n ?_ rfl rfl)) ?_
          refine wp_aload_n (pc := 301) dX12_findStates_301 (by first | rfl | assumption | (repeat first | assumption | rfl | refine aG_n ?_ rfl rfl)) ?_
          refine wp_getR (pc := 302) dX12_findStates_302 fl_12_116 (by first | rfl | assumption | exact sh_house (by omega) | exact sh_wish (by omega) | exact sh_wor (by omega) | exact sh_bar (by omega) | exact sh_term (by omega) | exact sh_sheet (by omega) | exact sh_items (by omega) | exact sh_sums (by omega)) rfl ?_
          refine wp_iload_n (pc := 305) dX12_findStates_305 (by first | rfl | assumption | (repeat first | assumption | rfl | refine aG_n ?_ rfl rfl)) ?_
          refine wp_iald (pc := 306) dX12_findStates_306 (by first | rfl | assumption | exact sh_house (by omega) | exact sh_wish (by omega) | exact sh_wor (by omega) | exact sh_bar (by omega) | exact sh_term (by omega) | exact sh_sheet (by omega) | exact sh_items (by omega) | exact sh_sums (by omega)) (vp_in_nI (by omega) (by decide)) ?_
          refine wp_iconst (pc := 307) (v := 4) dX12_findStates_307 (by decide) ?_
          refine wp_icmp_eq (pc := 308) (tgt := 321) dX12_findStates_308 rfl (fun _ => ?_) (fun q => absurd (by dsimp only; rw [up2_at]) q)
          refine wp_aload_n (pc := 321) dX12_findStates_321 (by first | rfl | assumption | (repeat first | assumption | rfl | refine aG_n ?_ rfl rfl)) ?_
          refine wp_getR (pc := 322) dX12_findStates_322 fl_12_110 (by first | rfl | assumption | exact sh_house (by omega) | exact sh_wish (by omega) | exact sh_wor (by omega) | exact sh_bar (by omega) | exact sh_term (by omega) | exact sh_sheet (by omega) | exact sh_items (by omega) | exact sh_sums (by omega)) rfl ?_
          refine wp_iload_n (pc := 325) dX12_findStates_325 (by first | rfl | assumption | (repeat first | assumption | rfl | refine aG_n ?_ rfl rfl)) ?_
          refine wp_iald (pc := 326) dX12_findStates_326 (by first | rfl | assumption | exact sh_house (by omega) | exact sh_wish (by omega) | exact sh_wor (by omega) | exact sh_bar (by omega) | exact sh_term (by omega) | exact sh_sheet (by omega) | exact sh_items (by omega) | exact sh_sums (by omega)) (vp_in_nI (by omega) (by decide)) ?_
          refine wp_iconst (pc := 327) (v := 1) dX12_findStates_327 (by decide) ?_
          refine wp_iadd (pc := 328) dX12_findStates_328 ?_
          refine wp_goto (pc := 329) (tgt := 334) dX12_findStates_329 rfl ?_
          refine wp_iast (pc := 334) dX12_findStates_334 (by first | rfl | assumption | exact sh_house (by omega) | exact sh_wish (by omega) | exact sh_wor (by omega) | exact sh_bar (by omega) | exact sh_term (by omega) | exact sh_sheet (by omega) | exact sh_items (by omega) | exact sh_sums (by omega)) (vp_in_nI (by omega) (by decide)) ?_
          simp (disch := omega) only [up2_ne, ci, hE]
          exact k _ (by first | rfl | assumption | (repeat first | assumption | rfl | refine aG_n ?_ rfl rfl)) (by first | rfl | assumption | (repeat first | assumption | rfl | refine aG_n ?_ rfl rfl)) (by first | rfl | assumption | (repeat first | assumption | rfl | refine aG_n ?_ rfl rfl))
        · refine wp_aload_n (pc := 192) dX12_findStates_192 (by first | rfl | assumption | (repeat first | assumption | rfl | refine aG_n ?_ rfl rfl)) ?_
          refine wp_getR (pc := 193) dX12_findStates_193 fl_12_101 (by first | rfl | assumption | exact sh_house (by omega) | exact sh_wish (by omega) | exact sh_wor (by omega) | exact sh_bar (by omega) | exact sh_term (by omega) | exact sh_sheet (by omega) | exact sh_items (by omega) | exact sh_sums (by omega)) rfl ?_
          refine wp_iload_n (pc := 196) dX12_findStates_196 (by first | rfl | assumption | (repeat first | assumption | rfl | refine aG_n ?_ rfl rfl)) ?_
          refine wp_iald (pc := 197) dX12_findStates_197 (by first | rfl | assumption | exact sh_house (by omega) | exact sh_wish (by omega) | exact sh_wor (by omega) | exact sh_bar (by omega) | exact sh_term (by omega) | exact sh_sheet (by omega) | exact sh_items (by omega) | exact sh_sums (by omega)) (vp_in_nI (by omega) (by decide)) ?_
          refine wp_bipush (pc := 198) (v := -4) dX12_findStates_198 (by decide) ?_
          refine wp_icmp_eq (pc := 200) (tgt := 217) dX12_findStates_200 rfl (fun q => absurd q (by rw [ci]; exact pd.1)) (fun _ => ?_)
          refine wp_aload_n (pc := 203) dX12_findStates_203 (by first | rfl | assumption | (repeat first | assumption | rfl | refine aG_n ?_ rfl rfl)) ?_
          refine wp_getR (pc := 204) dX12_findStates_204 fl_12_101 (by first | rfl | assumption | exact sh_house (by omega) | exact sh_wish (by omega) | exact sh_wor (by omega) | exact sh_bar (by omega) | exact sh_term (by omega) | exact sh_sheet (by omega) | exact sh_items (by omega) | exact sh_sums (by omega)) rfl ?_
          refine wp_iload_n (pc := 207) dX12_findStates_207 (by first | rfl | assumption | (repeat first | assumption | rfl | refine aG_n ?_ rfl rfl)) ?_
          refine wp_iald (pc := 208) dX12_findStates_208 (by first | rfl | assumption | exact sh_house (by omega) | exact sh_wish (by omega) | exact sh_wor (by omega) | exact sh_bar (by omega) | exact sh_term (by omega) | exact sh_sheet (by omega) | exact sh_items (by omega) | exact sh_sums (by omega)) (vp_in_nI (by omega) (by decide)) ?_
          refine wp_iload_n (pc := 209) dX12_findStates_209 (by first | rfl | assumption | (repeat first | assumption | rfl | refine aG_n ?_ rfl rfl)) ?_
          refine wp_icmp_gt (pc := 210) (tgt := 217) dX12_findStates_210 rfl (fun _ => ?_) (fun q => absurd (by rw [ci]; exact pd.2) q)
          refine wp_iconst (pc := 217) (v := 0) dX12_findStates_217 (by decide) ?_
          refine wp_istore (pc := 218) dX12_findStates_218 (by decide) ?_
          refine wp_aload_n (pc := 220) dX12_findStates_220 (by first | rfl | assumption | (repeat first | assumption | rfl | refine aG_n ?_ rfl rfl)) ?_
          refine wp_getR (pc := 221) dX12_findStates_221 fl_12_110 (by first | rfl | assumption | exact sh_house (by omega) | exact sh_wish (by omega) | exact sh_wor (by omega) | exact sh_bar (by omega) | exact sh_term (by omega) | exact sh_sheet (by omega) | exact sh_items (by omega) | exact sh_sums (by omega)) rfl ?_
          refine wp_iload_n (pc := 224) dX12_findStates_224 (by first | rfl | assumption | (repeat first | assumption | rfl | refine aG_n ?_ rfl rfl)) ?_
          refine wp_iald (pc := 225) dX12_findStates_225 (by first | rfl | assumption | exact sh_house (by omega) | exact sh_wish (by omega) | exact sh_wor (by omega) | exact sh_bar (by omega) | exact sh_term (by omega) | exact sh_sheet (by omega) | exact sh_items (by omega) | exact sh_sums (by omega)) (vp_in_nI (by omega) (by decide)) ?_
          refine wp_bipush (pc := 226) (v := -4) dX12_findStates_226 (by decide) ?_
          refine wp_icmp_ne (pc := 228) (tgt := 241) dX12_findStates_228 rfl (fun _ => ?_) (fun q => absurd q n4)
          refine wp_iload (pc := 241) dX12_findStates_241 (by first | rfl | assumption | (repeat first | assumption | rfl | refine aG_n ?_ rfl rfl)) ?_
          refine wp_if_eq (pc := 243) (tgt := 275) dX12_findStates_243 rfl (fun _ => ?_) (fun q => absurd q (by decide))
          refine wp_aload_n (pc := 275) dX12_findStates_275 (by first | rfl | assumption | (repeat first | assumption | rfl | refine aG_n ?_ rfl rfl)) ?_
          refine wp_getR (pc := 276) dX12_findStates_276 fl_12_116 (by first | rfl | assumption | exact sh_house (by omega) | exact sh_wish (by omega) | exact sh_wor (by omega) | exact sh_bar (by omega) | exact sh_term (by omega) | exact sh_sheet (by omega) | exact sh_items (by omega) | exact sh_sums (by omega)) rfl ?_
          refine wp_iload_n (pc := 279) dX12_findStates_279 (by first | rfl | assumption | (repeat first | assumption | rfl | refine aG_n ?_ rfl rfl)) ?_
          refine wp_iload_n (pc := 280) dX12_findStates_280 (by first | rfl | assumption | (repeat first | assumption | rfl | refine aG_n ?_ rfl rfl)) ?_
          refine wp_aload_n (pc := 281) dX12_findStates_281 (by first | rfl | assumption | (repeat first | assumption | rfl | refine aG_n ?_ rfl rfl)) ?_
          refine wp_getR (pc := 282) dX12_findStates_282 fl_12_110 (by first | rfl | assumption | exact sh_house (by omega) | exact sh_wish (by omega) | exact sh_wor (by omega) | exact sh_bar (by omega) | exact sh_term (by omega) | exact sh_sheet (by omega) | exact sh_items (by omega) | exact sh_sums (by omega)) rfl ?_
          refine wp_iload_n (pc := 285) dX12_findStates_285 (by first | rfl | assumption | (repeat first | assumption | rfl | refine aG_n ?_ rfl rfl)) ?_
          refine wp_iald (pc := 286) dX12_findStates_286 (by first | rfl | assumption | exact sh_house (by omega) | exact sh_wish (by omega) | exact sh_wor (by omega) | exact sh_bar (by omega) | exact sh_term (by omega) | exact sh_sheet (by omega) | exact sh_items (by omega) | exact sh_sums (by omega)) (vp_in_nI (by omega) (by decide)) ?_
          refine wp_icmp_le (pc := 287) (tgt := 294) dX12_findStates_287 rfl (fun q => absurd q (by rw [ci, hE]; exact fun z => i_nle c6 z)) (fun _ => ?_)
          refine wp_iconst (pc := 290) (v := 4) dX12_findStates_290 (by decide) ?_
          refine wp_goto (pc := 291) (tgt := 295) dX12_findStates_291 rfl ?_
          refine wp_iast (pc := 295) dX12_findStates_295 (by first | rfl | assumption | exact sh_house (by omega) | exact sh_wish (by omega) | exact sh_wor (by omega) | exact sh_bar (by omega) | exact sh_term (by omega) | exact sh_sheet (by omega) | exact sh_items (by omega) | exact sh_sums (by omega)) (vp_in_nI (by omega) (by decide)) ?_
          refine wp_aload_n (pc := 296) dX12_findStates_296 (by first | rfl | assumption | (repeat first | assumption | rfl | refine aG_n ?_ rfl rfl)) ?_
          refine wp_getR (pc := 297) dX12_findStates_297 fl_12_113 (by first | rfl | assumption | exact sh_house (by omega) | exact sh_wish (by omega) | exact sh_wor (by omega) | exact sh_bar (by omega) | exact sh_term (by omega) | exact sh_sheet (by omega) | exact sh_items (by omega) | exact sh_sums (by omega)) rfl ?_
          refine wp_iload_n (pc := 300) dX12_findStates_300 (by first | rfl | assumption | (repeat first | assumption | rfl | refine aG_n ?_ rfl rfl)) ?_
          refine wp_aload_n (pc := 301) dX12_findStates_301 (by first | rfl | assumption | (repeat first | assumption | rfl | refine aG_n ?_ rfl rfl)) ?_
          refine wp_getR (pc := 302) dX12_findStates_302 fl_12_116 (by first | rfl | assumption | exact sh_house (by omega) | exact sh_wish (by omega) | exact sh_wor (by omega) | exact sh_bar (by omega) | exact sh_term (by omega) | exact sh_sheet (by omega) | exact sh_items (by omega) | exact sh_sums (by omega)) rfl ?_
          refine wp_iload_n (pc := 305) dX12_findStates_305 (by first | rfl | assumption | (repeat first | assumption | rfl | refine aG_n ?_ rfl rfl)) ?_
          refine wp_iald (pc := 306) dX12_findStates_306 (by first | rfl | assumption | exact sh_house (by omega) | exact sh_wish (by omega) | exact sh_wor (by omega) | exact sh_bar (by omega) | exact sh_term (by omega) | exact sh_sheet (by omega) | exact sh_items (by omega) | exact sh_sums (by omega)) (vp_in_nI (by omega) (by decide)) ?_
          refine wp_iconst (pc := 307) (v := 4) dX12_findStates_307 (by decide) ?_
          refine wp_icmp_eq (pc := 308) (tgt := 321) dX12_findStates_308 rfl (fun _ => ?_) (fun q => absurd (by dsimp only; rw [up2_at]) q)
          refine wp_aload_n (pc := 321) dX12_findStates_321 (by first | rfl | assumption | (repeat first | assumption | rfl | refine aG_n ?_ rfl rfl)) ?_
          refine wp_getR (pc := 322) dX12_findStates_322 fl_12_110 (by first | rfl | assumption | exact sh_house (by omega) | exact sh_wish (by omega) | exact sh_wor (by omega) | exact sh_bar (by omega) | exact sh_term (by omega) | exact sh_sheet (by omega) | exact sh_items (by omega) | exact sh_sums (by omega)) rfl ?_
          refine wp_iload_n (pc := 325) dX12_findStates_325 (by first | rfl | assumption | (repeat first | assumption | rfl | refine aG_n ?_ rfl rfl)) ?_
          refine wp_iald (pc := 326) dX12_findStates_326 (by first | rfl | assumption | exact sh_house (by omega) | exact sh_wish (by omega) | exact sh_wor (by omega) | exact sh_bar (by omega) | exact sh_term (by omega) | exact sh_sheet (by omega) | exact sh_items (by omega) | exact sh_sums (by omega)) (vp_in_nI (by omega) (by decide)) ?_
          refine wp_iconst (pc := 327) (v := 1) dX12_findStates_327 (by decide) ?_
          refine wp_iadd (pc := 328) dX12_findStates_328 ?_
          refine wp_goto (pc := 329) (tgt := 334) dX12_findStates_329 rfl ?_
          refine wp_iast (pc := 334) dX12_findStates_334 (by first | rfl | assumption | exact sh_house (by omega) | exact sh_wish (by omega) | exact sh_wor (by omega) | exact sh_bar (by omega) | exact sh_term (by omega) | exact sh_sheet (by omega) | exact sh_items (by omega) | exact sh_sums (by omega)) (vp_in_nI (by omega) (by decide)) ?_
          simp (disch := omega) only [up2_ne, ci, hE]
          exact k _ (by first | rfl | assumption | (repeat first | assumption | rfl | refine aG_n ?_ rfl rfl)) (by first | rfl | assumption | (repeat first | assumption | rfl | refine aG_n ?_ rfl rfl)) (by first | rfl | assumption | (repeat first | assumption | rfl | refine aG_n ?_ rfl rfl))
      · have sv : stV μ.1 h e i = 2 := by unfold stV; rw [if_neg n3, if_neg c3, if_neg c4, if_neg c6]
        have bv : brV μ.1 h e i = -4 := by unfold brV; rw [sv]; exact if_neg (by decide)
        rw [sv, bv] at k
        rcases pd with pd | pd
        · refine wp_aload_n (pc := 192) dX12_findStates_192 (by first | rfl | assumption | (repeat first | assumption | rfl | refine aG_n ?_ rfl rfl)) ?_
          refine wp_getR (pc := 193) dX12_findStates_193 fl_12_101 (by first | rfl | assumption | exact sh_house (by omega) | exact sh_wish (by omega) | exact sh_wor (by omega) | exact sh_bar (by omega) | exact sh_term (by omega) | exact sh_sheet (by omega) | exact sh_items (by omega) | exact sh_sums (by omega)) rfl ?_
          refine wp_iload_n (pc := 196) dX12_findStates_196 (by first | rfl | assumption | (repeat first | assumption | rfl | refine aG_n ?_ rfl rfl)) ?_
          refine wp_iald (pc := 197) dX12_findStates_197 (by first | rfl | assumption | exact sh_house (by omega) | exact sh_wish (by omega) | exact sh_wor (by omega) | exact sh_bar (by omega) | exact sh_term (by omega) | exact sh_sheet (by omega) | exact sh_items (by omega) | exact sh_sums (by omega)) (vp_in_nI (by omega) (by decide)) ?_
          refine wp_bipush (pc := 198) (v := -4) dX12_findStates_198 (by decide) ?_
          refine wp_icmp_eq (pc := 200) (tgt := 217) dX12_findStates_200 rfl (fun _ => ?_) (fun q => absurd (by rw [ci]; exact pd) q)
          refine wp_iconst (pc := 217) (v := 0) dX12_findStates_217 (by decide) ?_
          refine wp_istore (pc := 218) dX12_findStates_218 (by decide) ?_
          refine wp_aload_n (pc := 220) dX12_findStates_220 (by first | rfl | assumption | (repeat first | assumption | rfl | refine aG_n ?_ rfl rfl)) ?_
          refine wp_getR (pc := 221) dX12_findStates_221 fl_12_110 (by first | rfl | assumption | exact sh_house (by omega) | exact sh_wish (by omega) | exact sh_wor (by omega) | exact sh_bar (by omega) | exact sh_term (by omega) | exact sh_sheet (by omega) | exact sh_items (by omega) | exact sh_sums (by omega)) rfl ?_
          refine wp_iload_n (pc := 224) dX12_findStates_224 (by first | rfl | assumption | (repeat first | assumption | rfl | refine aG_n ?_ rfl rfl)) ?_
          refine wp_iald (pc := 225) dX12_findStates_225 (by first | rfl | assumption | exact sh_house (by omega) | exact sh_wish (by omega) | exact sh_wor (by omega) | exact sh_bar (by omega) | exact sh_term (by omega) | exact sh_sheet (by omega) | exact sh_items (by omega) | exact sh_sums (by omega)) (vp_in_nI (by omega) (by decide)) ?_
          refine wp_bipush (pc := 226) (v := -4) dX12_findStates_226 (by decide) ?_
          refine wp_icmp_ne (pc := 228) (tgt := 241) dX12_findStates_228 rfl (fun _ => ?_) (fun q => absurd q n4)
          refine wp_iload (pc := 241) dX12_findStates_241 (by first | rfl | assumption | (repeat first | assumption | rfl | refine aG_n ?_ rfl rfl)) ?_
          refine wp_if_eq (pc := 243) (tgt := 275) dX12_findStates_243 rfl (fun _ => ?_) (fun q => absurd q (by decide))
          refine wp_aload_n (pc := 275) dX12_findStates_275 (by first | rfl | assumption | (repeat first | assumption | rfl | refine aG_n ?_ rfl rfl)) ?_
          refine wp_getR (pc := 276) dX12_findStates_276 fl_12_116 (by first | rfl | assumption | exact sh_house (by omega) | exact sh_wish (by omega) | exact sh_wor (by omega) | exact sh_bar (by omega) | exact sh_term (by omega) | exact sh_sheet (by omega) | exact sh_items (by omega) | exact sh_sums (by omega)) rfl ?_
          refine wp_iload_n (pc := 279) dX12_findStates_279 (by first | rfl | assumption | (repeat first | assumption | rfl | refine aG_n ?_ rfl rfl)) ?_
          refine wp_iload_n (pc := 280) dX12_findStates_280 (by first | rfl | assumption | (repeat first | assumption | rfl | refine aG_n ?_ rfl rfl)) ?_
          refine wp_aload_n (pc := 281) dX12_findStates_281 (by first | rfl | assumption | (repeat first | assumption | rfl | refine aG_n ?_ rfl rfl)) ?_
          refine wp_getR (pc := 282) dX12_findStates_282 fl_12_110 (by first | rfl | assumption | exact sh_house (by omega) | exact sh_wish (by omega) | exact sh_wor (by omega) | exact sh_bar (by omega) | exact sh_term (by omega) | exact sh_sheet (by omega) | exact sh_items (by omega) | exact sh_sums (by omega)) rfl ?_
          refine wp_iload_n (pc := 285) dX12_findStates_285 (by first | rfl | assumption | (repeat first | assumption | rfl | refine aG_n ?_ rfl rfl)) ?_
          refine wp_iald (pc := 286) dX12_findStates_286 (by first | rfl | assumption | exact sh_house (by omega) | exact sh_wish (by omega) | exact sh_wor (by omega) | exact sh_bar (by omega) | exact sh_term (by omega) | exact sh_sheet (by omega) | exact sh_items (by omega) | exact sh_sums (by omega)) (vp_in_nI (by omega) (by decide)) ?_
          refine wp_icmp_le (pc := 287) (tgt := 294) dX12_findStates_287 rfl (fun _ => ?_) (fun q => absurd (by rw [ci, hE]; exact i_nlt c6) q)
          refine wp_iconst (pc := 294) (v := 2) dX12_findStates_294 (by decide) ?_
          refine wp_iast (pc := 295) dX12_findStates_295 (by first | rfl | assumption | exact sh_house (by omega) | exact sh_wish (by omega) | exact sh_wor (by omega) | exact sh_bar (by omega) | exact sh_term (by omega) | exact sh_sheet (by omega) | exact sh_items (by omega) | exact sh_sums (by omega)) (vp_in_nI (by omega) (by decide)) ?_
          refine wp_aload_n (pc := 296) dX12_findStates_296 (by first | rfl | assumption | (repeat first | assumption | rfl | refine aG_n ?_ rfl rfl)) ?_
          refine wp_getR (pc := 297) dX12_findStates_297 fl_12_113 (by first | rfl | assumption | exact sh_house (by omega) | exact sh_wish (by omega) | exact sh_wor (by omega) | exact sh_bar (by omega) | exact sh_term (by omega) | exact sh_sheet (by omega) | exact sh_items (by omega) | exact sh_sums (by omega)) rfl ?_
          refine wp_iload_n (pc := 300) dX12_findStates_300 (by first | rfl | assumption | (repeat first | assumption | rfl | refine aG_n ?_ rfl rfl)) ?_
          refine wp_aload_n (pc := 301) dX12_findStates_301 (by first | rfl | assumption | (repeat first | assumption | rfl | refine aG_n ?_ rfl rfl)) ?_
          refine wp_getR (pc := 302) dX12_findStates_302 fl_12_116 (by first | rfl | assumption | exact sh_house (by omega) | exact sh_wish (by omega) | exact sh_wor (by omega) | exact sh_bar (by omega) | exact sh_term (by omega) | exact sh_sheet (by omega) | exact sh_items (by omega) | exact sh_sums (by omega)) rfl ?_
          refine wp_iload_n (pc := 305) dX12_findStates_305 (by first | rfl | assumption | (repeat first | assumption | rfl | refine aG_n ?_ rfl rfl)) ?_
          refine wp_iald (pc := 306) dX12_findStates_306 (by first | rfl | assumption | exact sh_house (by omega) | exact sh_wish (by omega) | exact sh_wor (by omega) | exact sh_bar (by omega) | exact sh_term (by omega) | exact sh_sheet (by omega) | exact sh_items (by omega) | exact sh_sums (by omega)) (vp_in_nI (by omega) (by decide)) ?_
          refine wp_iconst (pc := 307) (v := 4) dX12_findStates_307 (by decide) ?_
          refine wp_icmp_eq (pc := 308) (tgt := 321) dX12_findStates_308 rfl (fun q => absurd q (by dsimp only; rw [up2_at]; decide)) (fun _ => ?_)
          refine wp_aload_n (pc := 311) dX12_findStates_311 (by first | rfl | assumption | (repeat first | assumption | rfl | refine aG_n ?_ rfl rfl)) ?_
          refine wp_getR (pc := 312) dX12_findStates_312 fl_12_116 (by first | rfl | assumption | exact sh_house (by omega) | exact sh_wish (by omega) | exact sh_wor (by omega) | exact sh_bar (by omega) | exact sh_term (by omega) | exact sh_sheet (by omega) | exact sh_items (by omega) | exact sh_sums (by omega)) rfl ?_
          refine wp_iload_n (pc := 315) dX12_findStates_315 (by first | rfl | assumption | (repeat first | assumption | rfl | refine aG_n ?_ rfl rfl)) ?_
          refine wp_iald (pc := 316) dX12_findStates_316 (by first | rfl | assumption | exact sh_house (by omega) | exact sh_wish (by omega) | exact sh_wor (by omega) | exact sh_bar (by omega) | exact sh_term (by omega) | exact sh_sheet (by omega) | exact sh_items (by omega) | exact sh_sums (by omega)) (vp_in_nI (by omega) (by decide)) ?_
          refine wp_iconst (pc := 317) (v := 5) dX12_findStates_317 (by decide) ?_
          refine wp_icmp_ne (pc := 318) (tgt := 332) dX12_findStates_318 rfl (fun _ => ?_) (fun q => absurd q (by dsimp only; rw [up2_at]; decide))
          refine wp_bipush (pc := 332) (v := -4) dX12_findStates_332 (by decide) ?_
          refine wp_iast (pc := 334) dX12_findStates_334 (by first | rfl | assumption | exact sh_house (by omega) | exact sh_wish (by omega) | exact sh_wor (by omega) | exact sh_bar (by omega) | exact sh_term (by omega) | exact sh_sheet (by omega) | exact sh_items (by omega) | exact sh_sums (by omega)) (vp_in_nI (by omega) (by decide)) ?_
          simp (disch := omega) only [up2_ne, ci]
          exact k _ (by first | rfl | assumption | (repeat first | assumption | rfl | refine aG_n ?_ rfl rfl)) (by first | rfl | assumption | (repeat first | assumption | rfl | refine aG_n ?_ rfl rfl)) (by first | rfl | assumption | (repeat first | assumption | rfl | refine aG_n ?_ rfl rfl))
        · refine wp_aload_n (pc := 192) dX12_findStates_192 (by first | rfl | assumption | (repeat first | assumption | rfl | refine aG_n ?_ rfl rfl)) ?_
          refine wp_getR (pc := 193) dX12_findStates_193 fl_12_101 (by first | rfl | assumption | exact sh_house (by omega) | exact sh_wish (by omega) | exact sh_wor (by omega) | exact sh_bar (by omega) | exact sh_term (by omega) | exact sh_sheet (by omega) | exact sh_items (by omega) | exact sh_sums (by omega)) rfl ?_
          refine wp_iload_n (pc := 196) dX12_findStates_196 (by first | rfl | assumption | (repeat first | assumption | rfl | refine aG_n ?_ rfl rfl)) ?_
          refine wp_iald (pc := 197) dX12_findStates_197 (by first | rfl | assumption | exact sh_house (by omega) | exact sh_wish (by omega) | exact sh_wor (by omega) | exact sh_bar (by omega) | exact sh_term (by omega) | exact sh_sheet (by omega) | exact sh_items (by omega) | exact sh_sums (by omega)) (vp_in_nI (by omega) (by decide)) ?_
          refine wp_bipush (pc := 198) (v := -4) dX12_findStates_198 (by decide) ?_
          refine wp_icmp_eq (pc := 200) (tgt := 217) dX12_findStates_200 rfl (fun q => absurd q (by rw [ci]; exact pd.1)) (fun _ => ?_)
          refine wp_aload_n (pc := 203) dX12_findStates_203 (by first | rfl | assumption | (repeat first | assumption | rfl | refine aG_n ?_ rfl rfl)) ?_
          refine wp_getR (pc := 204) dX12_findStates_204 fl_12_101 (by first | rfl | assumption | exact sh_house (by omega) | exact sh_wish (by omega) | exact sh_wor (by omega) | exact sh_bar (by omega) | exact sh_term (by omega) | exact sh_sheet (by omega) | exact sh_items (by omega) | exact sh_sums (by omega)) rfl ?_
          refine wp_iload_n (pc := 207) dX12_findStates_207 (by first | rfl | assumption | (repeat first | assumption | rfl | refine aG_n ?_ rfl rfl)) ?_
          refine wp_iald (pc := 208) dX12_findStates_208 (by first | rfl | assumption | exact sh_house (by omega) | exact sh_wish (by omega) | exact sh_wor (by omega) | exact sh_bar (by omega) | exact sh_term (by omega) | exact sh_sheet (by omega) | exact sh_items (by omega) | exact sh_sums (by omega)) (vp_in_nI (by omega) (by decide)) ?_
          refine wp_iload_n (pc := 209) dX12_findStates_209 (by first | rfl | assumption | (repeat first | assumption | rfl | refine aG_n ?_ rfl rfl)) ?_
          refine wp_icmp_gt (pc := 210) (tgt := 217) dX12_findStates_210 rfl (fun _ => ?_) (fun q => absurd (by rw [ci]; exact pd.2) q)
          refine wp_iconst (pc := 217) (v := 0) dX12_findStates_217 (by decide) ?_
          refine wp_istore (pc := 218) dX12_findStates_218 (by decide) ?_
          refine wp_aload_n (pc := 220) dX12_findStates_220 (by first | rfl | assumption | (repeat first | assumption | rfl | refine aG_n ?_ rfl rfl)) ?_
          refine wp_getR (pc := 221) dX12_findStates_221 fl_12_110 (by first | rfl | assumption | exact sh_house (by omega) | exact sh_wish (by omega) | exact sh_wor (by omega) | exact sh_bar (by omega) | exact sh_term (by omega) | exact sh_sheet (by omega) | exact sh_items (by omega) | exact sh_sums (by omega)) rfl ?_
          refine wp_iload_n (pc := 224) dX12_findStates_224 (by first | rfl | assumption | (repeat first | assumption | rfl | refine aG_n ?_ rfl rfl)) ?_
          refine wp_iald (pc := 225) dX12_findStates_225 (by first | rfl | assumption | exact sh_house (by omega) | exact sh_wish (by omega) | exact sh_wor (by omega) | exact sh_bar (by omega) | exact sh_term (by omega) | exact sh_sheet (by omega) | exact sh_items (by omega) | exact sh_sums (by omega)) (vp_in_nI (by omega) (by decide)) ?_
          refine wp_bipush (pc := 226) (v := -4) dX12_findStates_226 (by decide) ?_
          refine wp_icmp_ne (pc := 228) (tgt := 241) dX12_findStates_228 rfl (fun _ => ?_) (fun q => absurd q n4)
          refine wp_iload (pc := 241) dX12_findStates_241 (by first | rfl | assumption | (repeat first | assumption | rfl | refine aG_n ?_ rfl rfl)) ?_
          refine wp_if_eq (pc := 243) (tgt := 275) dX12_findStates_243 rfl (fun _ => ?_) (fun q => absurd q (by decide))
          refine wp_aload_n (pc := 275) dX12_findStates_275 (by first | rfl | assumption | (repeat first | assumption | rfl | refine aG_n ?_ rfl rfl)) ?_
          refine wp_getR (pc := 276) dX12_findStates_276 fl_12_116 (by first | rfl | assumption | exact sh_house (by omega) | exact sh_wish (by omega) | exact sh_wor (by omega) | exact sh_bar (by omega) | exact sh_term (by omega) | exact sh_sheet (by omega) | exact sh_items (by omega) | exact sh_sums (by omega)) rfl ?_
          refine wp_iload_n (pc := 279) dX12_findStates_279 (by first | rfl | assumption | (repeat first | assumption | rfl | refine aG_n ?_ rfl rfl)) ?_
          refine wp_iload_n (pc := 280) dX12_findStates_280 (by first | rfl | assumption | (repeat first | assumption | rfl | refine aG_n ?_ rfl rfl)) ?_
          refine wp_aload_n (pc := 281) dX12_findStates_281 (by first | rfl | assumption | (repeat first | assumption | rfl | refine aG_n ?_ rfl rfl)) ?_
          refine wp_getR (pc := 282) dX12_findStates_282 fl_12_110 (by first | rfl | assumption | exact sh_house (by omega) | exact sh_wish (by omega) | exact sh_wor (by omega) | exact sh_bar (by omega) | exact sh_term (by omega) | exact sh_sheet (by omega) | exact sh_items (by omega) | exact sh_sums (by omega)) rfl ?_
          refine wp_iload_n (pc := 285) dX12_findStates_285 (by first | rfl | assumption | (repeat first | assumption | rfl | refine aG_n ?_ rfl rfl)) ?_
          refine wp_iald (pc := 286) dX12_findStates_286 (by first | rfl | assumption | exact sh_house (by omega) | exact sh_wish (by omega) | exact sh_wor (by omega) | exact sh_bar (by omega) | exact sh_term (by omega) | exact sh_sheet (by omega) | exact sh_items (by omega) | exact sh_sums (by omega)) (vp_in_nI (by omega) (by decide)) ?_
          refine wp_icmp_le (pc := 287) (tgt := 294) dX12_findStates_287 rfl (fun _ => ?_) (fun q => absurd (by rw [ci, hE]; exact i_nlt c6) q)
          refine wp_iconst (pc := 294) (v := 2) dX12_findStates_294 (by decide) ?_
          refine wp_iast (pc := 295) dX12_findStates_295 (by first | rfl | assumption | exact sh_house (by omega) | exact sh_wish (by omega) | exact sh_wor (by omega) | exact sh_bar (by omega) | exact sh_term (by omega) | exact sh_sheet (by omega) | exact sh_items (by omega) | exact sh_sums (by omega)) (vp_in_nI (by omega) (by decide)) ?_
          refine wp_aload_n (pc := 296) dX12_findStates_296 (by first | rfl | assumption | (repeat first | assumption | rfl | refine aG_n ?_ rfl rfl)) ?_
          refine wp_getR (pc := 297) dX12_findStates_297 fl_12_113 (by first | rfl | assumption | exact sh_house (by omega) | exact sh_wish (by omega) | exact sh_wor (by omega) | exact sh_bar (by omega) | exact sh_term (by omega) | exact sh_sheet (by omega) | exact sh_items (by omega) | exact sh_sums (by omega)) rfl ?_
          refine wp_iload_n (pc := 300) dX12_findStates_300 (by first | rfl | assumption | (repeat first | assumption | rfl | refine aG_n ?_ rfl rfl)) ?_
          refine wp_aload_n (pc := 301) dX12_findStates_301 (by first | rfl | assumption | (repeat first | assumption | rfl | refine aG_n ?_ rfl rfl)) ?_
          refine wp_getR (pc := 302) dX12_findStates_302 fl_12_116 (by first | rfl | assumption | exact sh_house (by omega) | exact sh_wish (by omega) | exact sh_wor (by omega) | exact sh_bar (by omega) | exact sh_term (by omega) | exact sh_sheet (by omega) | exact sh_items (by omega) | exact sh_sums (by omega)) rfl ?_
          refine wp_iload_n (pc := 305) dX12_findStates_305 (by first | rfl | assumption | (repeat first | assumption | rfl | refine aG_n ?_ rfl rfl)) ?_
          refine wp_iald (pc := 306) dX12_findStates_306 (by first | rfl | assumption | exact sh_house (by omega) | exact sh_wish (by omega) | exact sh_wor (by omega) | exact sh_bar (by omega) | exact sh_term (by omega) | exact sh_sheet (by omega) | exact sh_items (by omega) | exact sh_sums (by omega)) (vp_in_nI (by omega) (by decide)) ?_
          refine wp_iconst (pc := 307) (v := 4) dX12_findStates_307 (by decide) ?_
          refine wp_icmp_eq (pc := 308) (tgt := 321) dX12_findStates_308 rfl (fun q => absurd q (by dsimp only; rw [up2_at]; decide)) (fun _ => ?_)
          refine wp_aload_n (pc := 311) dX12_findStates_311 (by first | rfl | assumption | (repeat first | assumption | rfl | refine aG_n ?_ rfl rfl)) ?_
          refine wp_getR (pc := 312) dX12_findStates_312 fl_12_116 (by first | rfl | assumption | exact sh_house (by omega) | exact sh_wish (by omega) | exact sh_wor (by omega) | exact sh_bar (by omega) | exact sh_term (by omega) | exact sh_sheet (by omega) | exact sh_items (by omega) | exact sh_sums (by omega)) rfl ?_
          refine wp_iload_n (pc := 315) dX12_findStates_315 (by first | rfl | assumption | (repeat first | assumption | rfl | refine aG_n ?_ rfl rfl)) ?_
          refine wp_iald (pc := 316) dX12_findStates_316 (by first | rfl | assumption | exact sh_house (by omega) | exact sh_wish (by omega) | exact sh_wor (by omega) | exact sh_bar (by omega) | exact sh_term (by omega) | exact sh_sheet (by omega) | exact sh_items (by omega) | exact sh_sums (by omega)) (vp_in_nI (by omega) (by decide)) ?_
          refine wp_iconst (pc := 317) (v := 5) dX12_findStates_317 (by decide) ?_
          refine wp_icmp_ne (pc := 318) (tgt := 332) dX12_findStates_318 rfl (fun _ => ?_) (fun q => absurd q (by dsimp only; rw [up2_at]; decide))
          refine wp_bipush (pc := 332) (v := -4) dX12_findStates_332 (by decide) ?_
          refine wp_iast (pc := 334) dX12_findStates_334 (by first | rfl | assumption | exact sh_house (by omega) | exact sh_wish (by omega) | exact sh_wor (by omega) | exact sh_bar (by omega) | exact sh_term (by omega) | exact sh_sheet (by omega) | exact sh_items (by omega) | exact sh_sums (by omega)) (vp_in_nI (by omega) (by decide)) ?_
          simp (disch := omega) only [up2_ne, ci]
          exact k _ (by first | rfl | assumption | (repeat first | assumption | rfl | refine aG_n ?_ rfl rfl)) (by first | rfl | assumption | (repeat first | assumption | rfl | refine aG_n ?_ rfl rfl)) (by first | rfl | assumption | (repeat first | assumption | rfl | refine aG_n ?_ rfl rfl))
theorem l_fs (hL : LT μ.1 n) (k : ∀ μ' : Mm, (∀ c, ¬ (c = 120 ∨ c = 121 ∨ c = 122) → μ'.1 c = μ.1 c) → μ'.2 = μ.2 → (∀ i, i < n → fsP μ.1 h μ'.1 i) → Q none μ') : ∀ (f i : Nat), i + f = n → ∀ μ' : Mm, (∀ c, ¬ (c = 120 ∨ c = 121 ∨ c = 122) → μ'.1 c = μ.1 c) → μ'.2 = μ.2 → (∀ j, j < i → fsP μ.1 h μ'.1 j) → ∀ L : aL, aL_get L 0 = some (.ref 86) → aL_get L 1 = some (.int h) → aL_get L 2 = some (.int (nI i)) → WP X mX12_findStates 2 L [] μ' Q
  | 0, i, hi, μ', hs, hr, hE, L, g0, g1, g2 => by
    obtain rfl : i = n := by omega
    have h86 : μ'.1 86 37 = nI i := by rw [hs 86 (by omega)]; exact hL.2.2.1
    have hn := hL.1
    refine wp_iload_n (pc := 2) dX12_findStates_2 (by first | rfl | assumption | (repeat first | assumption | rfl | refine aG_n ?_ rfl rfl)) ?_
    refine wp_aload_n (pc := 3) dX12_findStates_3 (by first | rfl | assumption | (repeat first | assumption | rfl | refine aG_n ?_ rfl rfl)) ?_
    refine wp_getI (pc := 4) dX12_findStates_4 fl_12_319 (by first | rfl | assumption | exact sh_house (by omega) | exact sh_wish (by omega) | exact sh_wor (by omega) | exact sh_bar (by omega) | exact sh_term (by omega) | exact sh_sheet (by omega) | exact sh_items (by omega) | exact sh_sums (by omega)) rfl ?_
    refine wp_icmp_ge (pc := 7) (tgt := 341) dX12_findStates_7 rfl (fun _ => ?_) (fun q => absurd (by rw [h86]; exact nI_le (by omega) (by omega)) q)
    refine wp_vreturn (pc := 341) dX12_findStates_341 rfl ?_
    exact k _ hs hr hE
  | f + 1, i, hi, μ', hs, hr, hE, L, g0, g1, g2 => by
    have h86 : μ'.1 86 37 = nI n := by rw [hs 86 (by omega)]; exact hL.2.2.1
    have hn := hL.1
    have hin : i < n := by omega
    have ci : (nI i).toNatClampNeg = i := nI_clamp (by omega)
    obtain ⟨-, gx1, gx2, gx3, -⟩ := hL.2.2.2.1 i hin
    have r111 : μ'.1 111 = μ.1 111 := hs 111 (by omega)
    have r115 : μ'.1 115 = μ.1 115 := hs 115 (by omega)
    have r116 : μ'.1 116 = μ.1 116 := hs 116 (by omega)
    have r118 : μ'.1 118 = μ.1 118 := hs 118 (by omega)
    have r119 : μ'.1 119 = μ.1 119 := hs 119 (by omega)
    have tail : ∀ N : MM, (∀ c, ¬ (c = 120 ∨ c = 121 ∨ c = 122) → N c = μ.1 c) → (∀ j, j < i + 1 → fsP μ.1 h N j) → ∀ L : aL, aL_get L 0 = some (.ref 86) → aL_get L 1 = some (.int h) → aL_get L 2 = some (.int (nI i)) → WP X mX12_findStates 335 L [] (N, μ'.2) Q := by
      intro N hN hF L g0 g1 g2
      refine wp_iinc (pc := 335) dX12_findStates_335 (by decide) (by first | rfl | assumption | (repeat first | assumption | rfl | refine aG_n ?_ rfl rfl)) rfl ?_
      refine wp_goto (pc := 338) (tgt := 2) dX12_findStates_338 rfl ?_
      exact l_fs hL k f (i + 1) (by omega) (N, μ'.2) hN hr hF _ (by first | rfl | assumption | (repeat first | assumption | rfl | refine aG_n ?_ rfl rfl)) (by first | rfl | assumption | (repeat first | assumption | rfl | refine aG_n ?_ rfl rfl)) (by rw [← nI_i1]; first | rfl | assumption | (repeat first | assumption | rfl | refine aG_n ?_ rfl rfl))
    -- what the three kinds with an end have in common
    have mid : ∀ v : Int32, v = eO μ.1 h (μ'.1 120) i → ¬ μ.1 111 i = 3 → ∀ L : aL, aL_get L 0 = some (.ref 86) → aL_get L 1 = some (.int h) → aL_get L 2 = some (.int (nI i)) → WP X mX12_findStates 192 L [] (up2 (up2 (up2 μ'.1 121 i (-4)) 120 i (-4)) 120 i v, μ'.2) Q := by
      intro v hv n3 L g0 g1 g2
      have hm : ∀ c, 111 ≤ c → c ≤ 119 → up2 (up2 (up2 μ'.1 121 i (-4)) 120 i (-4)) 120 i v c = μ.1 c := fun c h1 h2 => by
        rw [up2_ne (by omega), up2_ne (by omega), up2_ne (by omega)]; exact hs c (by omega)
      refine l_fs192 (e := v) (by omega) (by dsimp only; rw [hm 111 (by omega) (by omega)]; exact n3) up2_at (fun L g0 g1 g2 => ?_) L g0 g1 g2
      dsimp only
      rw [(st_m hm).1, (st_m hm).2]
      refine tail _ (fun c hc => ?_) (fs_step hL hin hE (fun j hj => ?_) (fun j hj => ?_) (fun j hj => ?_) ?_ ?_ ?_) L g0 g1 g2
      · simp (disch := omega) only [up2_ne]; exact hs c hc
      · simp (disch := omega) only [up2_ne, up2_p]
      · simp (disch := omega) only [up2_ne, up2_p]
      · simp (disch := omega) only [up2_ne, up2_p]
      · simp (disch := omega) only [up2_ne, up2_at]; exact hv
      · simp (disch := omega) only [up2_ne, up2_at]
      · simp (disch := omega) only [up2_ne, up2_p, up2_at]
    by_cases c3 : μ.1 111 i = 3
    · obtain ⟨e, he, ee⟩ := gx1 (Or.inr c3)
      have ae := abt_e (M := μ.1) (by omega) ee
      have ce : (nI e).toNatClampNeg = e := nI_clamp (by omega)
      have ev : eO μ.1 h (μ'.1 120) i = -4 := by unfold eO; rw [c3]; rfl
      by_cases c2 : knP μ.1 e h
      · have c2' : knP μ'.1 e h := by unfold knP; rw [r118, r119]; exact c2
        have sv : stV μ.1 h (-4) i = 4 := by unfold stV; rw [if_pos c3, ae, if_pos c2]
        have bv : brV μ.1 h (-4) i = μ.1 118 e := by unfold brV; rw [sv, if_pos (by decide), if_pos c3, ae]
        refine wp_iload_n (pc := 2) dX12_findStates_2 (by first | rfl | assumption | (repeat first | assumption | rfl | refine aG_n ?_ rfl rfl)) ?_
        refine wp_aload_n (pc := 3) dX12_findStates_3 (by first | rfl | assumption | (repeat first | assumption | rfl | refine aG_n ?_ rfl rfl)) ?_
        refine wp_getI (pc := 4) dX12_findStates_4 fl_12_319 (by first | rfl | assumption | exact sh_house (by omega) | exact sh_wish (by omega) | exact sh_wor (by omega) | exact sh_bar (by omega) | exact sh_term (by omega) | exact sh_sheet (by omega) | exact sh_items (by omega) | exact sh_sums (by omega)) rfl ?_
        refine wp_icmp_ge (pc := 7) (tgt := 341) dX12_findStates_7 rfl (fun q => absurd q (by rw [h86]; exact nI_ge (by omega) (by omega))) (fun _ => ?_)
        refine wp_aload_n (pc := 10) dX12_findStates_10 (by first | rfl | assumption | (repeat first | assumption | rfl | refine aG_n ?_ rfl rfl)) ?_
        refine wp_getR (pc := 11) dX12_findStates_11 fl_12_95 (by first | rfl | assumption | exact sh_house (by omega) | exact sh_wish (by omega) | exact sh_wor (by omega) | exact sh_bar (by omega) | exact sh_term (by omega) | exact sh_sheet (by omega) | exact sh_items (by omega) | exact sh_sums (by omega)) rfl ?_
        refine wp_iload_n (pc := 14) dX12_findStates_14 (by first | rfl | assumption | (repeat first | assumption | rfl | refine aG_n ?_ rfl rfl)) ?_
        refine wp_iald (pc := 15) dX12_findStates_15 (by first | rfl | assumption | exact sh_house (by omega) | exact sh_wish (by omega) | exact sh_wor (by omega) | exact sh_bar (by omega) | exact sh_term (by omega) | exact sh_sheet (by omega) | exact sh_items (by omega) | exact sh_sums (by omega)) (vp_in_nI (by omega) (by decide)) ?_
        refine wp_istore_n (pc := 16) dX12_findStates_16 (by decide) ?_
        refine wp_aload_n (pc := 17) dX12_findStates_17 (by first | rfl | assumption | (repeat first | assumption | rfl | refine aG_n ?_ rfl rfl)) ?_
        refine wp_getR (pc := 18) dX12_findStates_18 fl_12_113 (by first | rfl | assumption | exact sh_house (by omega) | exact sh_wish (by omega) | exact sh_wor (by omega) | exact sh_bar (by omega) | exact sh_term (by omega) | exact sh_sheet (by omega) | exact sh_items (by omega) | exact sh_sums (by omega)) rfl ?_
        refine wp_iload_n (pc := 21) dX12_findStates_21 (by first | rfl | assumption | (repeat first | assumption | rfl | refine aG_n ?_ rfl rfl)) ?_
        refine wp_bipush (pc := 22) (v := -4) dX12_findStates_22 (by decide) ?_
        refine wp_iast (pc := 24) dX12_findStates_24 (by first | rfl | assumption | exact sh_house (by omega) | exact sh_wish (by omega) | exact sh_wor (by omega) | exact sh_bar (by omega) | exact sh_term (by omega) | exact sh_sheet (by omega) | exact sh_items (by omega) | exact sh_sums (by omega)) (vp_in_nI (by omega) (by decide)) ?_
        refine wp_aload_n (pc := 25) dX12_findStates_25 (by first | rfl | assumption | (repeat first | assumption | rfl | refine aG_n ?_ rfl rfl)) ?_
        refine wp_getR (pc := 26) dX12_findStates_26 fl_12_110 (by first | rfl | assumption | exact sh_house (by omega) | exact sh_wish (by omega) | exact sh_wor (by omega) | exact sh_bar (by omega) | exact sh_term (by omega) | exact sh_sheet (by omega) | exact sh_items (by omega) | exact sh_sums (by omega)) rfl ?_
        refine wp_iload_n (pc := 29) dX12_findStates_29 (by first | rfl | assumption | (repeat first | assumption | rfl | refine aG_n ?_ rfl rfl)) ?_
        refine wp_bipush (pc := 30) (v := -4) dX12_findStates_30 (by decide) ?_
        refine wp_iast (pc := 32) dX12_findStates_32 (by first | rfl | assumption | exact sh_house (by omega) | exact sh_wish (by omega) | exact sh_wor (by omega) | exact sh_bar (by omega) | exact sh_term (by omega) | exact sh_sheet (by omega) | exact sh_items (by omega) | exact sh_sums (by omega)) (vp_in_nI (by omega) (by decide)) ?_
        refine wp_aload_n (pc := 33) dX12_findStates_33 (by first | rfl | assumption | (repeat first | assumption | rfl | refine aG_n ?_ rfl rfl)) ?_
        refine wp_getR (pc := 34) dX12_findStates_34 fl_12_83 (by first | rfl | assumption | exact sh_house (by omega) | exact sh_wish (by omega) | exact sh_wor (by omega) | exact sh_bar (by omega) | exact sh_term (by omega) | exact sh_sheet (by omega) | exact sh_items (by omega) | exact sh_sums (by omega)) rfl ?_
        refine wp_iload_n (pc := 37) dX12_findStates_37 (by first | rfl | assumption | (repeat first | assumption | rfl | refine aG_n ?_ rfl rfl)) ?_
        refine wp_iald (pc := 38) dX12_findStates_38 (by first | rfl | assumption | exact sh_house (by omega) | exact sh_wish (by omega) | exact sh_wor (by omega) | exact sh_bar (by omega) | exact sh_term (by omega) | exact sh_sheet (by omega) | exact sh_items (by omega) | exact sh_sums (by omega)) (vp_in_nI (by omega) (by decide)) ?_
        refine wp_iconst (pc := 39) (v := 3) dX12_findStates_39 (by decide) ?_
        refine wp_icmp_ne (pc := 40) (tgt := 92) dX12_findStates_40 rfl (fun q => absurd (by dsimp only; simp (disch := omega) only [up2_ne, ci, r111]; exact c3) q) (fun _ => ?_)
        refine wp_aload_n (pc := 43) dX12_findStates_43 (by first | rfl | assumption | (repeat first | assumption | rfl | refine aG_n ?_ rfl rfl)) ?_
        refine wp_getR (pc := 44) dX12_findStates_44 fl_12_116 (by first | rfl | assumption | exact sh_house (by omega) | exact sh_wish (by omega) | exact sh_wor (by omega) | exact sh_bar (by omega) | exact sh_term (by omega) | exact sh_sheet (by omega) | exact sh_items (by omega) | exact sh_sums (by omega)) rfl ?_
        refine wp_iload_n (pc := 47) dX12_findStates_47 (by first | rfl | assumption | (repeat first | assumption | rfl | refine aG_n ?_ rfl rfl)) ?_
        refine wp_aload_n (pc := 48) dX12_findStates_48 (by first | rfl | assumption | (repeat first | assumption | rfl | refine aG_n ?_ rfl rfl)) ?_
        refine wp_iload_n (pc := 49) dX12_findStates_49 (by first | rfl | assumption | (repeat first | assumption | rfl | refine aG_n ?_ rfl rfl)) ?_
        refine wp_iload_n (pc := 50) dX12_findStates_50 (by first | rfl | assumption | (repeat first | assumption | rfl | refine aG_n ?_ rfl rfl)) ?_
        refine wp_cV (pc := 51) dX12_findStates_51 lk_12_338 rfl (by decide) rfl (by first | rfl | assumption | exact sh_house (by omega) | exact sh_wish (by omega) | exact sh_wor (by omega) | exact sh_bar (by omega) | exact sh_term (by omega) | exact sh_sheet (by omega) | exact sh_items (by omega) | exact sh_sums (by omega)) rfl rfl ?_
        try rw [ci]
        try rw [r115]
        try rw [ee]
        refine c_X12_isKnown he (fun _ => aK_i ?_) (fun q => absurd (by dsimp only; simp (disch := omega) only [knP, up2_ne]; exact c2') q)
        refine wp_if_eq (pc := 54) (tgt := 61) dX12_findStates_54 rfl (fun q => absurd q (by decide)) (fun _ => ?_)
        refine wp_iconst (pc := 57) (v := 4) dX12_findStates_57 (by decide) ?_
        refine wp_goto (pc := 58) (tgt := 62) dX12_findStates_58 rfl ?_
        refine wp_iast (pc := 62) dX12_findStates_62 (by first | rfl | assumption | exact sh_house (by omega) | exact sh_wish (by omega) | exact sh_wor (by omega) | exact sh_bar (by omega) | exact sh_term (by omega) | exact sh_sheet (by omega) | exact sh_items (by omega) | exact sh_sums (by omega)) (vp_in_nI (by omega) (by decide)) ?_
        refine wp_aload_n (pc := 63) dX12_findStates_63 (by first | rfl | assumption | (repeat first | assumption | rfl | refine aG_n ?_ rfl rfl)) ?_
        refine wp_getR (pc := 64) dX12_findStates_64 fl_12_113 (by first | rfl | assumption | exact sh_house (by omega) | exact sh_wish (by omega) | exact sh_wor (by omega) | exact sh_bar (by omega) | exact sh_term (by omega) | exact sh_sheet (by omega) | exact sh_items (by omega) | exact sh_sums (by omega)) rfl ?_
        refine wp_iload_n (pc := 67) dX12_findStates_67 (by first | rfl | assumption | (repeat first | assumption | rfl | refine aG_n ?_ rfl rfl)) ?_
        refine wp_aload_n (pc := 68) dX12_findStates_68 (by first | rfl | assumption | (repeat first | assumption | rfl | refine aG_n ?_ rfl rfl)) ?_
        refine wp_iload_n (pc := 69) dX12_findStates_69 (by first | rfl | assumption | (repeat first | assumption | rfl | refine aG_n ?_ rfl rfl)) ?_
        refine wp_iload_n (pc := 70) dX12_findStates_70 (by first | rfl | assumption | (repeat first | assumption | rfl | refine aG_n ?_ rfl rfl)) ?_
        refine wp_cV (pc := 71) dX12_findStates_71 lk_12_338 rfl (by decide) rfl (by first | rfl | assumption | exact sh_house (by omega) | exact sh_wish (by omega) | exact sh_wor (by omega) | exact sh_bar (by omega) | exact sh_term (by omega) | exact sh_sheet (by omega) | exact sh_items (by omega) | exact sh_sums (by omega)) rfl rfl ?_
        try rw [ci]
        try rw [r115]
        try rw [ee]
        refine c_X12_isKnown he (fun _ => aK_i ?_) (fun q => absurd (by dsimp only; simp (disch := omega) only [knP, up2_ne]; exact c2') q)
        refine wp_if_eq (pc := 74) (tgt := 86) dX12_findStates_74 rfl (fun q => absurd q (by decide)) (fun _ => ?_)
        refine wp_aload_n (pc := 77) dX12_findStates_77 (by first | rfl | assumption | (repeat first | assumption | rfl | refine aG_n ?_ rfl rfl)) ?_
        refine wp_getR (pc := 78) dX12_findStates_78 fl_12_104 (by first | rfl | assumption | exact sh_house (by omega) | exact sh_wish (by omega) | exact sh_wor (by omega) | exact sh_bar (by omega) | exact sh_term (by omega) | exact sh_sheet (by omega) | exact sh_items (by omega) | exact sh_sums (by omega)) rfl ?_
        refine wp_iload_n (pc := 81) dX12_findStates_81 (by first | rfl | assumption | (repeat first | assumption | rfl | refine aG_n ?_ rfl rfl)) ?_
        refine wp_iald (pc := 82) dX12_findStates_82 (by first | rfl | assumption | exact sh_house (by omega) | exact sh_wish (by omega) | exact sh_wor (by omega) | exact sh_bar (by omega) | exact sh_term (by omega) | exact sh_sheet (by omega) | exact sh_items (by omega) | exact sh_sums (by omega)) (by (try dsimp only); (try rw [ci]); (try rw [r115]); (try rw [ee]); exact vp_in_nI (by omega) (by decide)) ?_
        refine wp_goto (pc := 83) (tgt := 88) dX12_findStates_83 rfl ?_
        refine wp_iast (pc := 88) dX12_findStates_88 (by first | rfl | assumption | exact sh_house (by omega) | exact sh_wish (by omega) | exact sh_wor (by omega) | exact sh_bar (by omega) | exact sh_term (by omega) | exact sh_sheet (by omega) | exact sh_items (by omega) | exact sh_sums (by omega)) (vp_in_nI (by omega) (by decide)) ?_
        refine wp_goto (pc := 89) (tgt := 335) dX12_findStates_89 rfl ?_
        skip
        dsimp only
        simp (disch := omega) only [up2_ne, ci, r115, ee, ce, r118]
        refine tail _ (fun c hc => ?_) (fs_step hL hin hE (fun j hj => ?_) (fun j hj => ?_) (fun j hj => ?_) ?_ ?_ ?_) _ (by first | rfl | assumption | (repeat first | assumption | rfl | refine aG_n ?_ rfl rfl)) (by first | rfl | assumption | (repeat first | assumption | rfl | refine aG_n ?_ rfl rfl)) (by first | rfl | assumption | (repeat first | assumption | rfl | refine aG_n ?_ rfl rfl))
        · simp (disch := omega) only [up2_ne]; exact hs c hc
        · simp (disch := omega) only [up2_ne, up2_p]
        · simp (disch := omega) only [up2_ne, up2_p]
        · simp (disch := omega) only [up2_ne, up2_p]
        · simp (disch := omega) only [up2_ne, up2_at]; exact ev.symm
        · simp (disch := omega) only [up2_ne, up2_at]; exact bv.symm
        · simp (disch := omega) only [up2_ne, up2_p, up2_at]; exact sv.symm
      · have c2' : ¬ knP μ'.1 e h := by unfold knP; rw [r118, r119]; exact c2
        have sv : stV μ.1 h (-4) i = 1 := by unfold stV; rw [if_pos c3, ae, if_neg c2]
        have bv : brV μ.1 h (-4) i = -4 := by unfold brV; rw [sv]; exact if_neg (by decide)
        refine wp_iload_n (pc := 2) dX12_findStates_2 (by first | rfl | assumption | (repeat first | assumption | rfl | refine aG_n ?_ rfl rfl)) ?_
        refine wp_aload_n (pc := 3) dX12_findStates_3 (by first | rfl | assumption | (repeat first | assumption | rfl | refine aG_n ?_ rfl rfl)) ?_
        refine wp_getI (pc := 4) dX12_findStates_4 fl_12_319 (by first | rfl | assumption | exact sh_house (by omega) | exact sh_wish (by omega) | exact sh_wor (by omega) | exact sh_bar (by omega) | exact sh_term (by omega) | exact sh_sheet (by omega) | exact sh_items (by omega) | exact sh_sums (by omega)) rfl ?_
        refine wp_icmp_ge (pc := 7) (tgt := 341) dX12_findStates_7 rfl (fun q => absurd q (by rw [h86]; exact nI_ge (by omega) (by omega))) (fun _ => ?_)
        refine wp_aload_n (pc := 10) dX12_findStates_10 (by first | rfl | assumption | (repeat first | assumption | rfl | refine aG_n ?_ rfl rfl)) ?_
        refine wp_getR (pc := 11) dX12_findStates_11 fl_12_95 (by first | rfl | assumption | exact sh_house (by omega) | exact sh_wish (by omega) | exact sh_wor (by omega) | exact sh_bar (by omega) | exact sh_term (by omega) | exact sh_sheet (by omega) | exact sh_items (by omega) | exact sh_sums (by omega)) rfl ?_
        refine wp_iload_n (pc := 14) dX12_findStates_14 (by first | rfl | assumption | (repeat first | assumption | rfl | refine aG_n ?_ rfl rfl)) ?_
        refine wp_iald (pc := 15) dX12_findStates_15 (by first | rfl | assumption | exact sh_house (by omega) | exact sh_wish (by omega) | exact sh_wor (by omega) | exact sh_bar (by omega) | exact sh_term (by omega) | exact sh_sheet (by omega) | exact sh_items (by omega) | exact sh_sums (by omega)) (vp_in_nI (by omega) (by decide)) ?_
        refine wp_istore_n (pc := 16) dX12_findStates_16 (by decide) ?_
        refine wp_aload_n (pc := 17) dX12_findStates_17 (by first | rfl | assumption | (repeat first | assumption | rfl | refine aG_n ?_ rfl rfl)) ?_
        refine wp_getR (pc := 18) dX12_findStates_18 fl_12_113 (by first | rfl | assumption | exact sh_house (by omega) | exact sh_wish (by omega) | exact sh_wor (by omega) | exact sh_bar (by omega) | exact sh_term (by omega) | exact sh_sheet (by omega) | exact sh_items (by omega) | exact sh_sums (by omega)) rfl ?_
        refine wp_iload_n (pc := 21) dX12_findStates_21 (by first | rfl | assumption | (repeat first | assumption | rfl | refine aG_n ?_ rfl rfl)) ?_
        refine wp_bipush (pc := 22) (v := -4) dX12_findStates_22 (by decide) ?_
        refine wp_iast (pc := 24) dX12_findStates_24 (by first | rfl | assumption | exact sh_house (by omega) | exact sh_wish (by omega) | exact sh_wor (by omega) | exact sh_bar (by omega) | exact sh_term (by omega) | exact sh_sheet (by omega) | exact sh_items (by omega) | exact sh_sums (by omega)) (vp_in_nI (by omega) (by decide)) ?_
        refine wp_aload_n (pc := 25) dX12_findStates_25 (by first | rfl | assumption | (repeat first | assumption | rfl | refine aG_n ?_ rfl rfl)) ?_
        refine wp_getR (pc := 26) dX12_findStates_26 fl_12_110 (by first | rfl | assumption | exact sh_house (by omega) | exact sh_wish (by omega) | exact sh_wor (by omega) | exact sh_bar (by omega) | exact sh_term (by omega) | exact sh_sheet (by omega) | exact sh_items (by omega) | exact sh_sums (by omega)) rfl ?_
        refine wp_iload_n (pc := 29) dX12_findStates_29 (by first | rfl | assumption | (repeat first | assumption | rfl | refine aG_n ?_ rfl rfl)) ?_
        refine wp_bipush (pc := 30) (v := -4) dX12_findStates_30 (by decide) ?_
        refine wp_iast (pc := 32) dX12_findStates_32 (by first | rfl | assumption | exact sh_house (by omega) | exact sh_wish (by omega) | exact sh_wor (by omega) | exact sh_bar (by omega) | exact sh_term (by omega) | exact sh_sheet (by omega) | exact sh_items (by omega) | exact sh_sums (by omega)) (vp_in_nI (by omega) (by decide)) ?_
        refine wp_aload_n (pc := 33) dX12_findStates_33 (by first | rfl | assumption | (repeat first | assumption | rfl | refine aG_n ?_ rfl rfl)) ?_
        refine wp_getR (pc := 34) dX12_findStates_34 fl_12_83 (by first | rfl | assumption | exact sh_house (by omega) | exact sh_wish (by omega) | exact sh_wor (by omega) | exact sh_bar (by omega) | exact sh_term (by omega) | exact sh_sheet (by omega) | exact sh_items (by omega) | exact sh_sums (by omega)) rfl ?_
        refine wp_iload_n (pc := 37) dX12_findStates_37 (by first | rfl | assumption | (repeat first | assumption | rfl | refine aG_n ?_ rfl rfl)) ?_
        refine wp_iald (pc := 38) dX12_findStates_38 (by first | rfl | assumption | exact sh_house (by omega) | exact sh_wish (by omega) | exact sh_wor (by omega) | exact sh_bar (by omega) | exact sh_term (by omega) | exact sh_sheet (by omega) | exact sh_items (by omega) | exact sh_sums (by omega)) (vp_in_nI (by omega) (by decide)) ?_
        refine wp_iconst (pc := 39) (v := 3) dX12_findStates_39 (by decide) ?_
        refine wp_icmp_ne (pc := 40) (tgt := 92) dX12_findStates_40 rfl (fun q => absurd (by dsimp only; simp (disch := omega) only [up2_ne, ci, r111]; exact c3) q) (fun _ => ?_)
        refine wp_aload_n (pc := 43) dX12_findStates_43 (by first | rfl | assumption | (repeat first | assumption | rfl | refine aG_n ?_ rfl rfl)) ?_
        refine wp_getR (pc := 44) dX12_findStates_44 fl_12_116 (by first | rfl | assumption | exact sh_house (by omega) | exact sh_wish (by omega) | exact sh_wor (by omega) | exact sh_bar (by omega) | exact sh_term (by omega) | exact sh_sheet (by omega) | exact sh_items (by omega) | exact sh_sums (by omega)) rfl ?_
        refine wp_iload_n (pc := 47) dX12_findStates_47 (by first | rfl | assumption | (repeat first | assumption | rfl | refine aG_n ?_ rfl rfl)) ?_
        refine wp_aload_n (pc := 48) dX12_findStates_48 (by first | rfl | assumption | (repeat first | assumption | rfl | refine aG_n ?_ rfl rfl)) ?_
        refine wp_iload_n (pc := 49) dX12_findStates_49 (by first | rfl | assumption | (repeat first | assumption | rfl | refine aG_n ?_ rfl rfl)) ?_
        refine wp_iload_n (pc := 50) dX12_findStates_50 (by first | rfl | assumption | (repeat first | assumption | rfl | refine aG_n ?_ rfl rfl)) ?_
        refine wp_cV (pc := 51) dX12_findStates_51 lk_12_338 rfl (by decide) rfl (by first | rfl | assumption | exact sh_house (by omega) | exact sh_wish (by omega) | exact sh_wor (by omega) | exact sh_bar (by omega) | exact sh_term (by omega) | exact sh_sheet (by omega) | exact sh_items (by omega) | exact sh_sums (by omega)) rfl rfl ?_
        try rw [ci]
        try rw [r115]
        try rw [ee]
        refine c_X12_isKnown he (fun q => absurd q (by dsimp only; simp (disch := omega) only [knP, up2_ne]; exact c2')) (fun _ => aK_i ?_)
        refine wp_if_eq (pc := 54) (tgt := 61) dX12_findStates_54 rfl (fun _ => ?_) (fun q => absurd rfl q)
        refine wp_iconst (pc := 61) (v := 1) dX12_findStates_61 (by decide) ?_
        refine wp_iast (pc := 62) dX12_findStates_62 (by first | rfl | assumption | exact sh_house (by omega) | exact sh_wish (by omega) | exact sh_wor (by omega) | exact sh_bar (by omega) | exact sh_term (by omega) | exact sh_sheet (by omega) | exact sh_items (by omega) | exact sh_sums (by omega)) (vp_in_nI (by omega) (by decide)) ?_
        refine wp_aload_n (pc := 63) dX12_findStates_63 (by first | rfl | assumption | (repeat first | assumption | rfl | refine aG_n ?_ rfl rfl)) ?_
        refine wp_getR (pc := 64) dX12_findStates_64 fl_12_113 (by first | rfl | assumption | exact sh_house (by omega) | exact sh_wish (by omega) | exact sh_wor (by omega) | exact sh_bar (by omega) | exact sh_term (by omega) | exact sh_sheet (by omega) | exact sh_items (by omega) | exact sh_sums (by omega)) rfl ?_
        refine wp_iload_n (pc := 67) dX12_findStates_67 (by first | rfl | assumption | (repeat first | assumption | rfl | refine aG_n ?_ rfl rfl)) ?_
        refine wp_aload_n (pc := 68) dX12_findStates_68 (by first | rfl | assumption | (repeat first | assumption | rfl | refine aG_n ?_ rfl rfl)) ?_
        refine wp_iload_n (pc := 69) dX12_findStates_69 (by first | rfl | assumption | (repeat first | assumption | rfl | refine aG_n ?_ rfl rfl)) ?_
        refine wp_iload_n (pc := 70) dX12_findStates_70 (by first | rfl | assumption | (repeat first | assumption | rfl | refine aG_n ?_ rfl rfl)) ?_
        refine wp_cV (pc := 71) dX12_findStates_71 lk_12_338 rfl (by decide) rfl (by first | rfl | assumption | exact sh_house (by omega) | exact sh_wish (by omega) | exact sh_wor (by omega) | exact sh_bar (by omega) | exact sh_term (by omega) | exact sh_sheet (by omega) | exact sh_items (by omega) | exact sh_sums (by omega)) rfl rfl ?_
        try rw [ci]
        try rw [r115]
        try rw [ee]
        refine c_X12_isKnown he (fun q => absurd q (by dsimp only; simp (disch := omega) only [knP, up2_ne]; exact c2')) (fun _ => aK_i ?_)
        refine wp_if_eq (pc := 74) (tgt := 86) dX12_findStates_74 rfl (fun _ => ?_) (fun q => absurd rfl q)
        refine wp_bipush (pc := 86) (v := -4) dX12_findStates_86 (by decide) ?_
        refine wp_iast (pc := 88) dX12_findStates_88 (by first | rfl | assumption | exact sh_house (by omega) | exact sh_wish (by omega) | exact sh_wor (by omega) | exact sh_bar (by omega) | exact sh_term (by omega) | exact sh_sheet (by omega) | exact sh_items (by omega) | exact sh_sums (by omega)) (vp_in_nI (by omega) (by decide)) ?_
        refine wp_goto (pc := 89) (tgt := 335) dX12_findStates_89 rfl ?_
        skip
        dsimp only
        simp (disch := omega) only [up2_ne, ci]
        refine tail _ (fun c hc => ?_) (fs_step hL hin hE (fun j hj => ?_) (fun j hj => ?_) (fun j hj => ?_) ?_ ?_ ?_) _ (by first | rfl | assumption | (repeat first | assumption | rfl | refine aG_n ?_ rfl rfl)) (by first | rfl | assumption | (repeat first | assumption | rfl | refine aG_n ?_ rfl rfl)) (by first | rfl | assumption | (repeat first | assumption | rfl | refine aG_n ?_ rfl rfl))
        · simp (disch := omega) only [up2_ne]; exact hs c hc
        · simp (disch := omega) only [up2_ne, up2_p]
        · simp (disch := omega) only [up2_ne, up2_p]
        · simp (disch := omega) only [up2_ne, up2_p]
        · simp (disch := omega) only [up2_ne, up2_at]; exact ev.symm
        · simp (disch := omega) only [up2_ne, up2_at]; exact bv.symm
        · simp (disch := omega) only [up2_ne, up2_p, up2_at]; exact sv.symm
    · by_cases c0 : μ.1 111 i = 0
      · refine wp_iload_n (pc := 2) dX12_findStates_2 (by first | rfl | assumption | (repeat first | assumption | rfl | refine aG_n ?_ rfl rfl)) ?_
        refine wp_aload_n (pc := 3) dX12_findStates_3 (by first | rfl | assumption | (repeat first | assumption | rfl | refine aG_n ?_ rfl rfl)) ?_
        refine wp_getI (pc := 4) dX12_findStates_4 fl_12_319 (by first | rfl | assumption | exact sh_house (by omega) | exact sh_wish (by omega) | exact sh_wor (by omega) | exact sh_bar (by omega) | exact sh_term (by omega) | exact sh_sheet (by omega) | exact sh_items (by omega) | exact sh_sums (by omega)) rfl ?_
        refine wp_icmp_ge (pc := 7) (tgt := 341) dX12_findStates_7 rfl (fun q => absurd q (by rw [h86]; exact nI_ge (by omega) (by omega))) (fun _ => ?_)
        refine wp_aload_n (pc := 10) dX12_findStates_10 (by first | rfl | assumption | (repeat first | assumption | rfl | refine aG_n ?_ rfl rfl)) ?_
        refine wp_getR (pc := 11) dX12_findStates_11 fl_12_95 (by first | rfl | assumption | exact sh_house (by omega) | exact sh_wish (by omega) | exact sh_wor (by omega) | exact sh_bar (by omega) | exact sh_term (by omega) | exact sh_sheet (by omega) | exact sh_items (by omega) | exact sh_sums (by omega)) rfl ?_
        refine wp_iload_n (pc := 14) dX12_findStates_14 (by first | rfl | assumption | (repeat first | assumption | rfl | refine aG_n ?_ rfl rfl)) ?_
        refine wp_iald (pc := 15) dX12_findStates_15 (by first | rfl | assumption | exact sh_house (by omega) | exact sh_wish (by omega) | exact sh_wor (by omega) | exact sh_bar (by omega) | exact sh_term (by omega) | exact sh_sheet (by omega) | exact sh_items (by omega) | exact sh_sums (by omega)) (vp_in_nI (by omega) (by decide)) ?_
        refine wp_istore_n (pc := 16) dX12_findStates_16 (by decide) ?_
        refine wp_aload_n (pc := 17) dX12_findStates_17 (by first | rfl | assumption | (repeat first | assumption | rfl | refine aG_n ?_ rfl rfl)) ?_
        refine wp_getR (pc := 18) dX12_findStates_18 fl_12_113 (by first | rfl | assumption | exact sh_house (by omega) | exact sh_wish (by omega) | exact sh_wor (by omega) | exact sh_bar (by omega) | exact sh_term (by omega) | exact sh_sheet (by omega) | exact sh_items (by omega) | exact sh_sums (by omega)) rfl ?_
        refine wp_iload_n (pc := 21) dX12_findStates_21 (by first | rfl | assumption | (repeat first | assumption | rfl | refine aG_n ?_ rfl rfl)) ?_
        refine wp_bipush (pc := 22) (v := -4) dX12_findStates_22 (by decide) ?_
        refine wp_iast (pc := 24) dX12_findStates_24 (by first | rfl | assumption | exact sh_house (by omega) | exact sh_wish (by omega) | exact sh_wor (by omega) | exact sh_bar (by omega) | exact sh_term (by omega) | exact sh_sheet (by omega) | exact sh_items (by omega) | exact sh_sums (by omega)) (vp_in_nI (by omega) (by decide)) ?_
        refine wp_aload_n (pc := 25) dX12_findStates_25 (by first | rfl | assumption | (repeat first | assumption | rfl | refine aG_n ?_ rfl rfl)) ?_
        refine wp_getR (pc := 26) dX12_findStates_26 fl_12_110 (by first | rfl | assumption | exact sh_house (by omega) | exact sh_wish (by omega) | exact sh_wor (by omega) | exact sh_bar (by omega) | exact sh_term (by omega) | exact sh_sheet (by omega) | exact sh_items (by omega) | exact sh_sums (by omega)) rfl ?_
        refine wp_iload_n (pc := 29) dX12_findStates_29 (by first | rfl | assumption | (repeat first | assumption | rfl | refine aG_n ?_ rfl rfl)) ?_
        refine wp_bipush (pc := 30) (v := -4) dX12_findStates_30 (by decide) ?_
        refine wp_iast (pc := 32) dX12_findStates_32 (by first | rfl | assumption | exact sh_house (by omega) | exact sh_wish (by omega) | exact sh_wor (by omega) | exact sh_bar (by omega) | exact sh_term (by omega) | exact sh_sheet (by omega) | exact sh_items (by omega) | exact sh_sums (by omega)) (vp_in_nI (by omega) (by decide)) ?_
        refine wp_aload_n (pc := 33) dX12_findStates_33 (by first | rfl | assumption | (repeat first | assumption | rfl | refine aG_n ?_ rfl rfl)) ?_
        refine wp_getR (pc := 34) dX12_findStates_34 fl_12_83 (by first | rfl | assumption | exact sh_house (by omega) | exact sh_wish (by omega) | exact sh_wor (by omega) | exact sh_bar (by omega) | exact sh_term (by omega) | exact sh_sheet (by omega) | exact sh_items (by omega) | exact sh_sums (by omega)) rfl ?_
        refine wp_iload_n (pc := 37) dX12_findStates_37 (by first | rfl | assumption | (repeat first | assumption | rfl | refine aG_n ?_ rfl rfl)) ?_
        refine wp_iald (pc := 38) dX12_findStates_38 (by first | rfl | assumption | exact sh_house (by omega) | exact sh_wish (by omega) | exact sh_wor (by omega) | exact sh_bar (by omega) | exact sh_term (by omega) | exact sh_sheet (by omega) | exact sh_items (by omega) | exact sh_sums (by omega)) (vp_in_nI (by omega) (by decide)) ?_
        refine wp_iconst (pc := 39) (v := 3) dX12_findStates_39 (by decide) ?_
        refine wp_icmp_ne (pc := 40) (tgt := 92) dX12_findStates_40 rfl (fun _ => ?_) (fun q => absurd q (by dsimp only; simp (disch := omega) only [up2_ne, ci, r111]; exact c3))
        refine wp_aload_n (pc := 92) dX12_findStates_92 (by first | rfl | assumption | (repeat first | assumption | rfl | refine aG_n ?_ rfl rfl)) ?_
        refine wp_getR (pc := 93) dX12_findStates_93 fl_12_83 (by first | rfl | assumption | exact sh_house (by omega) | exact sh_wish (by omega) | exact sh_wor (by omega) | exact sh_bar (by omega) | exact sh_term (by omega) | exact sh_sheet (by omega) | exact sh_items (by omega) | exact sh_sums (by omega)) rfl ?_
        refine wp_iload_n (pc := 96) dX12_findStates_96 (by first | rfl | assumption | (repeat first | assumption | rfl | refine aG_n ?_ rfl rfl)) ?_
        refine wp_iald (pc := 97) dX12_findStates_97 (by first | rfl | assumption | exact sh_house (by omega) | exact sh_wish (by omega) | exact sh_wor (by omega) | exact sh_bar (by omega) | exact sh_term (by omega) | exact sh_sheet (by omega) | exact sh_items (by omega) | exact sh_sums (by omega)) (vp_in_nI (by omega) (by decide)) ?_
        refine wp_if_ne (pc := 98) (tgt := 111) dX12_findStates_98 rfl (fun q => absurd (by dsimp only; simp (disch := omega) only [up2_ne, ci, r111]; exact c0) q) (fun _ => ?_)
        refine wp_aload_n (pc := 101) dX12_findStates_101 (by first | rfl | assumption | (repeat first | assumption | rfl | refine aG_n ?_ rfl rfl)) ?_
        refine wp_getR (pc := 102) dX12_findStates_102 fl_12_110 (by first | rfl | assumption | exact sh_house (by omega) | exact sh_wish (by omega) | exact sh_wor (by omega) | exact sh_bar (by omega) | exact sh_term (by omega) | exact sh_sheet (by omega) | exact sh_items (by omega) | exact sh_sums (by omega)) rfl ?_
        refine wp_iload_n (pc := 105) dX12_findStates_105 (by first | rfl | assumption | (repeat first | assumption | rfl | refine aG_n ?_ rfl rfl)) ?_
        refine wp_iload_n (pc := 106) dX12_findStates_106 (by first | rfl | assumption | (repeat first | assumption | rfl | refine aG_n ?_ rfl rfl)) ?_
        refine wp_iast (pc := 107) dX12_findStates_107 (by first | rfl | assumption | exact sh_house (by omega) | exact sh_wish (by omega) | exact sh_wor (by omega) | exact sh_bar (by omega) | exact sh_term (by omega) | exact sh_sheet (by omega) | exact sh_items (by omega) | exact sh_sums (by omega)) (vp_in_nI (by omega) (by decide)) ?_
        refine wp_goto (pc := 108) (tgt := 192) dX12_findStates_108 rfl ?_
        skip
        dsimp only
        rw [ci]
        exact mid _ (by unfold eO; rw [if_pos c0, r115]) c3 _ (by first | rfl | assumption | (repeat first | assumption | rfl | refine aG_n ?_ rfl rfl)) (by first | rfl | assumption | (repeat first | assumption | rfl | refine aG_n ?_ rfl rfl)) (by first | rfl | assumption | (repeat first | assumption | rfl | refine aG_n ?_ rfl rfl))
      · by_cases c1 : μ.1 111 i = 1
        · obtain ⟨e, he, ee⟩ := gx1 (Or.inl c1)
          have ae := abt_e (M := μ.1) (by omega) ee
          have ce : (nI e).toNatClampNeg = e := nI_clamp (by omega)
          by_cases c2 : knP μ.1 e h
          · have c2' : knP μ'.1 e h := by unfold knP; rw [r118, r119]; exact c2
            refine wp_iload_n (pc := 2) dX12_findStates_2 (by first | rfl | assumption | (repeat first | assumption | rfl | refine aG_n ?_ rfl rfl)) ?_
            refine wp_aload_n (pc := 3) dX12_findStates_3 (by first | rfl | assumption | (repeat first | assumption | rfl | refine aG_n ?_ rfl rfl)) ?_
            refine wp_getI (pc := 4) dX12_findStates_4 fl_12_319 (by first | rfl | assumption | exact sh_house (by omega) | exact sh_wish (by omega) | exact sh_wor (by omega) | exact sh_bar (by omega) | exact sh_term (by omega) | exact sh_sheet (by omega) | exact sh_items (by omega) | exact sh_sums (by omega)) rfl ?_
            refine wp_icmp_ge (pc := 7) (tgt := 341) dX12_findStates_7 rfl (fun q => absurd q (by rw [h86]; exact nI_ge (by omega) (by omega))) (fun _ => ?_)
            refine wp_aload_n (pc := 10) dX12_findStates_10 (by first | rfl | assumption | (repeat first | assumption | rfl | refine aG_n ?_ rfl rfl)) ?_
            refine wp_getR (pc := 11) dX12_findStates_11 fl_12_95 (by first | rfl | assumption | exact sh_house (by omega) | exact sh_wish (by omega) | exact sh_wor (by omega) | exact sh_bar (by omega) | exact sh_term (by omega) | exact sh_sheet (by omega) | exact sh_items (by omega) | exact sh_sums (by omega)) rfl ?_
            refine wp_iload_n (pc := 14) dX12_findStates_14 (by first | rfl | assumption | (repeat first | assumption | rfl | refine aG_n ?_ rfl rfl)) ?_
            refine wp_iald (pc := 15) dX12_findStates_15 (by first | rfl | assumption | exact sh_house (by omega) | exact sh_wish (by omega) | exact sh_wor (by omega) | exact sh_bar (by omega) | exact sh_term (by omega) | exact sh_sheet (by omega) | exact sh_items (by omega) | exact sh_sums (by omega)) (vp_in_nI (by omega) (by decide)) ?_
            refine wp_istore_n (pc := 16) dX12_findStates_16 (by decide) ?_
            refine wp_aload_n (pc := 17) dX12_findStates_17 (by first | rfl | assumption | (repeat first | assumption | rfl | refine aG_n ?_ rfl rfl)) ?_
            refine wp_getR (pc := 18) dX12_findStates_18 fl_12_113 (by first | rfl | assumption | exact sh_house (by omega) | exact sh_wish (by omega) | exact sh_wor (by omega) | exact sh_bar (by omega) | exact sh_term (by omega) | exact sh_sheet (by omega) | exact sh_items (by omega) | exact sh_sums (by omega)) rfl ?_
            refine wp_iload_n (pc := 21) dX12_findStates_21 (by first | rfl | assumption | (repeat first | assumption | rfl | refine aG_n ?_ rfl rfl)) ?_
            refine wp_bipush (pc := 22) (v := -4) dX12_findStates_22 (by decide) ?_
            refine wp_iast (pc := 24) dX12_findStates_24 (by first | rfl | assumption | exact sh_house (by omega) | exact sh_wish (by omega) | exact sh_wor (by omega) | exact sh_bar (by omega) | exact sh_term (by omega) | exact sh_sheet (by omega) | exact sh_items (by omega) | exact sh_sums (by omega)) (vp_in_nI (by omega) (by decide)) ?_
            refine wp_aload_n (pc := 25) dX12_findStates_25 (by first | rfl | assumption | (repeat first | assumption | rfl | refine aG_n ?_ rfl rfl)) ?_
            refine wp_getR (pc := 26) dX12_findStates_26 fl_12_110 (by first | rfl | assumption | exact sh_house (by omega) | exact sh_wish (by omega) | exact sh_wor (by omega) | exact sh_bar (by omega) | exact sh_term (by omega) | exact sh_sheet (by omega) | exact sh_items (by omega) | exact sh_sums (by omega)) rfl ?_
            refine wp_iload_n (pc := 29) dX12_findStates_29 (by first | rfl | assumption | (repeat first | assumption | rfl | refine aG_n ?_ rfl rfl)) ?_
            refine wp_bipush (pc := 30) (v := -4) dX12_findStates_30 (by decide) ?_
            refine wp_iast (pc := 32) dX12_findStates_32 (by first | rfl | assumption | exact sh_house (by omega) | exact sh_wish (by omega) | exact sh_wor (by omega) | exact sh_bar (by omega) | exact sh_term (by omega) | exact sh_sheet (by omega) | exact sh_items (by omega) | exact sh_sums (by omega)) (vp_in_nI (by omega) (by decide)) ?_
            refine wp_aload_n (pc := 33) dX12_findStates_33 (by first | rfl | assumption | (repeat first | assumption | rfl | refine aG_n ?_ rfl rfl)) ?_
            refine wp_getR (pc := 34) dX12_findStates_34 fl_12_83 (by first | rfl | assumption | exact sh_house (by omega) | exact sh_wish (by omega) | exact sh_wor (by omega) | exact sh_bar (by omega) | exact sh_term (by omega) | exact sh_sheet (by omega) | exact sh_items (by omega) | exact sh_sums (by omega)) rfl ?_
            refine wp_iload_n (pc := 37) dX12_findStates_37 (by first | rfl | assumption | (repeat first | assumption | rfl | refine aG_n ?_ rfl rfl)) ?_
            refine wp_iald (pc := 38) dX12_findStates_38 (by first | rfl | assumption | exact sh_house (by omega) | exact sh_wish (by omega) | exact sh_wor (by omega) | exact sh_bar (by omega) | exact sh_term (by omega) | exact sh_sheet (by omega) | exact sh_items (by omega) | exact sh_sums (by omega)) (vp_in_nI (by omega) (by decide)) ?_
            refine wp_iconst (pc := 39) (v := 3) dX12_findStates_39 (by decide) ?_
            refine wp_icmp_ne (pc := 40) (tgt := 92) dX12_findStates_40 rfl (fun _ => ?_) (fun q => absurd q (by dsimp only; simp (disch := omega) only [up2_ne, ci, r111]; exact c3))
            refine wp_aload_n (pc := 92) dX12_findStates_92 (by first | rfl | assumption | (repeat first | assumption | rfl | refine aG_n ?_ rfl rfl)) ?_
            refine wp_getR (pc := 93) dX12_findStates_93 fl_12_83 (by first | rfl | assumption | exact sh_house (by omega) | exact sh_wish (by omega) | exact sh_wor (by omega) | exact sh_bar (by omega) | exact sh_term (by omega) | exact sh_sheet (by omega) | exact sh_items (by omega) | exact sh_sums (by omega)) rfl ?_
            refine wp_iload_n (pc := 96) dX12_findStates_96 (by first | rfl | assumption | (repeat first | assumption | rfl | refine aG_n ?_ rfl rfl)) ?_
            refine wp_iald (pc := 97) dX12_findStates_97 (by first | rfl | assumption | exact sh_house (by omega) | exact sh_wish (by omega) | exact sh_wor (by omega) | exact sh_bar (by omega) | exact sh_term (by omega) | exact sh_sheet (by omega) | exact sh_items (by omega) | exact sh_sums (by omega)) (vp_in_nI (by omega) (by decide)) ?_
            refine wp_if_ne (pc := 98) (tgt := 111) dX12_findStates_98 rfl (fun _ => ?_) (fun q => absurd q (by dsimp only; simp (disch := omega) only [up2_ne, ci, r111]; exact c0))
            refine wp_aload_n (pc := 111) dX12_findStates_111 (by first | rfl | assumption | (repeat first | assumption | rfl | refine aG_n ?_ rfl rfl)) ?_
            refine wp_getR (pc := 112) dX12_findStates_112 fl_12_83 (by first | rfl | assumption | exact sh_house (by omega) | exact sh_wish (by omega) | exact sh_wor (by omega) | exact sh_bar (by omega) | exact sh_term (by omega) | exact sh_sheet (by omega) | exact sh_items (by omega) | exact sh_sums (by omega)) rfl ?_
            refine wp_iload_n (pc := 115) dX12_findStates_115 (by first | rfl | assumption | (repeat first | assumption | rfl | refine aG_n ?_ rfl rfl)) ?_
            refine wp_iald (pc := 116) dX12_findStates_116 (by first | rfl | assumption | exact sh_house (by omega) | exact sh_wish (by omega) | exact sh_wor (by omega) | exact sh_bar (by omega) | exact sh_term (by omega) | exact sh_sheet (by omega) | exact sh_items (by omega) | exact sh_sums (by omega)) (vp_in_nI (by omega) (by decide)) ?_
            refine wp_iconst (pc := 117) (v := 1) dX12_findStates_117 (by decide) ?_
            refine wp_icmp_ne (pc := 118) (tgt := 157) dX12_findStates_118 rfl (fun q => absurd (by dsimp only; simp (disch := omega) only [up2_ne, ci, r111]; exact c1) q) (fun _ => ?_)
            refine wp_aload_n (pc := 121) dX12_findStates_121 (by first | rfl | assumption | (repeat first | assumption | rfl | refine aG_n ?_ rfl rfl)) ?_
            refine wp_getR (pc := 122) dX12_findStates_122 fl_12_110 (by first | rfl | assumption | exact sh_house (by omega) | exact sh_wish (by omega) | exact sh_wor (by omega) | exact sh_bar (by omega) | exact sh_term (by omega) | exact sh_sheet (by omega) | exact sh_items (by omega) | exact sh_sums (by omega)) rfl ?_
            refine wp_iload_n (pc := 125) dX12_findStates_125 (by first | rfl | assumption | (repeat first | assumption | rfl | refine aG_n ?_ rfl rfl)) ?_
            refine wp_aload_n (pc := 126) dX12_findStates_126 (by first | rfl | assumption | (repeat first | assumption | rfl | refine aG_n ?_ rfl rfl)) ?_
            refine wp_iload_n (pc := 127) dX12_findStates_127 (by first | rfl | assumption | (repeat first | assumption | rfl | refine aG_n ?_ rfl rfl)) ?_
            refine wp_iload_n (pc := 128) dX12_findStates_128 (by first | rfl | assumption | (repeat first | assumption | rfl | refine aG_n ?_ rfl rfl)) ?_
            refine wp_cV (pc := 129) dX12_findStates_129 lk_12_338 rfl (by decide) rfl (by first | rfl | assumption | exact sh_house (by omega) | exact sh_wish (by omega) | exact sh_wor (by omega) | exact sh_bar (by omega) | exact sh_term (by omega) | exact sh_sheet (by omega) | exact sh_items (by omega) | exact sh_sums (by omega)) rfl rfl ?_
            try rw [ci]
            try rw [r115]
            try rw [ee]
            refine c_X12_isKnown he (fun _ => aK_i ?_) (fun q => absurd (by dsimp only; simp (disch := omega) only [knP, up2_ne]; exact c2') q)
            refine wp_if_eq (pc := 132) (tgt := 151) dX12_findStates_132 rfl (fun q => absurd q (by decide)) (fun _ => ?_)
            refine wp_aload_n (pc := 135) dX12_findStates_135 (by first | rfl | assumption | (repeat first | assumption | rfl | refine aG_n ?_ rfl rfl)) ?_
            refine wp_getR (pc := 136) dX12_findStates_136 fl_12_104 (by first | rfl | assumption | exact sh_house (by omega) | exact sh_wish (by omega) | exact sh_wor (by omega) | exact sh_bar (by omega) | exact sh_term (by omega) | exact sh_sheet (by omega) | exact sh_items (by omega) | exact sh_sums (by omega)) rfl ?_
            refine wp_iload_n (pc := 139) dX12_findStates_139 (by first | rfl | assumption | (repeat first | assumption | rfl | refine aG_n ?_ rfl rfl)) ?_
            refine wp_iald (pc := 140) dX12_findStates_140 (by first | rfl | assumption | exact sh_house (by omega) | exact sh_wish (by omega) | exact sh_wor (by omega) | exact sh_bar (by omega) | exact sh_term (by omega) | exact sh_sheet (by omega) | exact sh_items (by omega) | exact sh_sums (by omega)) (by (try dsimp only); (try rw [ci]); (try rw [r115]); (try rw [ee]); exact vp_in_nI (by omega) (by decide)) ?_
            refine wp_aload_n (pc := 141) dX12_findStates_141 (by first | rfl | assumption | (repeat first | assumption | rfl | refine aG_n ?_ rfl rfl)) ?_
            refine wp_getR (pc := 142) dX12_findStates_142 fl_12_98 (by first | rfl | assumption | exact sh_house (by omega) | exact sh_wish (by omega) | exact sh_wor (by omega) | exact sh_bar (by omega) | exact sh_term (by omega) | exact sh_sheet (by omega) | exact sh_items (by omega) | exact sh_sums (by omega)) rfl ?_
            refine wp_iload_n (pc := 145) dX12_findStates_145 (by first | rfl | assumption | (repeat first | assumption | rfl | refine aG_n ?_ rfl rfl)) ?_
            refine wp_iald (pc := 146) dX12_findStates_146 (by first | rfl | assumption | exact sh_house (by omega) | exact sh_wish (by omega) | exact sh_wor (by omega) | exact sh_bar (by omega) | exact sh_term (by omega) | exact sh_sheet (by omega) | exact sh_items (by omega) | exact sh_sums (by omega)) (vp_in_nI (by omega) (by decide)) ?_
            refine wp_iadd (pc := 147) dX12_findStates_147 ?_
            refine wp_goto (pc := 148) (tgt := 153) dX12_findStates_148 rfl ?_
            refine wp_iast (pc := 153) dX12_findStates_153 (by first | rfl | assumption | exact sh_house (by omega) | exact sh_wish (by omega) | exact sh_wor (by omega) | exact sh_bar (by omega) | exact sh_term (by omega) | exact sh_sheet (by omega) | exact sh_items (by omega) | exact sh_sums (by omega)) (vp_in_nI (by omega) (by decide)) ?_
            refine wp_goto (pc := 154) (tgt := 192) dX12_findStates_154 rfl ?_
            skip
            dsimp only
            simp (disch := omega) only [up2_ne, ci, r115, ee, ce, r118, r116]
            exact mid _ (by unfold eO; rw [if_neg c0, if_pos c1, ae, if_pos c2]) c3 _ (by first | rfl | assumption | (repeat first | assumption | rfl | refine aG_n ?_ rfl rfl)) (by first | rfl | assumption | (repeat first | assumption | rfl | refine aG_n ?_ rfl rfl)) (by first | rfl | assumption | (repeat first | assumption | rfl | refine aG_n ?_ rfl rfl))
          · have c2' : ¬ knP μ'.1 e h := by unfold knP; rw [r118, r119]; exact c2
            refine wp_iload_n (pc := 2) dX12_findStates_2 (by first | rfl | assumption | (repeat first | assumption | rfl | refine aG_n ?_ rfl rfl)) ?_
            refine wp_aload_n (pc := 3) dX12_findStates_3 (by first | rfl | assumption | (repeat first | assumption | rfl | refine aG_n ?_ rfl rfl)) ?_
            refine wp_getI (pc := 4) dX12_findStates_4 fl_12_319 (by first | rfl | assumption | exact sh_house (by omega) | exact sh_wish (by omega) | exact sh_wor (by omega) | exact sh_bar (by omega) | exact sh_term (by omega) | exact sh_sheet (by omega) | exact sh_items (by omega) | exact sh_sums (by omega)) rfl ?_
            refine wp_icmp_ge (pc := 7) (tgt := 341) dX12_findStates_7 rfl (fun q => absurd q (by rw [h86]; exact nI_ge (by omega) (by omega))) (fun _ => ?_)
            refine wp_aload_n (pc := 10) dX12_findStates_10 (by first | rfl | assumption | (repeat first | assumption | rfl | refine aG_n ?_ rfl rfl)) ?_
            refine wp_getR (pc := 11) dX12_findStates_11 fl_12_95 (by first | rfl | assumption | exact sh_house (by omega) | exact sh_wish (by omega) | exact sh_wor (by omega) | exact sh_bar (by omega) | exact sh_term (by omega) | exact sh_sheet (by omega) | exact sh_items (by omega) | exact sh_sums (by omega)) rfl ?_
            refine wp_iload_n (pc := 14) dX12_findStates_14 (by first | rfl | assumption | (repeat first | assumption | rfl | refine aG_n ?_ rfl rfl)) ?_
            refine wp_iald (pc := 15) dX12_findStates_15 (by first | rfl | assumption | exact sh_house (by omega) | exact sh_wish (by omega) | exact sh_wor (by omega) | exact sh_bar (by omega) | exact sh_term (by omega) | exact sh_sheet (by omega) | exact sh_items (by omega) | exact sh_sums (by omega)) (vp_in_nI (by omega) (by decide)) ?_
            refine wp_istore_n (pc := 16) dX12_findStates_16 (by decide) ?_
            refine wp_aload_n (pc := 17) dX12_findStates_17 (by first | rfl | assumption | (repeat first | assumption | rfl | refine aG_n ?_ rfl rfl)) ?_
            refine wp_getR (pc := 18) dX12_findStates_18 fl_12_113 (by first | rfl | assumption | exact sh_house (by omega) | exact sh_wish (by omega) | exact sh_wor (by omega) | exact sh_bar (by omega) | exact sh_term (by omega) | exact sh_sheet (by omega) | exact sh_items (by omega) | exact sh_sums (by omega)) rfl ?_
            refine wp_iload_n (pc := 21) dX12_findStates_21 (by first | rfl | assumption | (repeat first | assumption | rfl | refine aG_n ?_ rfl rfl)) ?_
            refine wp_bipush (pc := 22) (v := -4) dX12_findStates_22 (by decide) ?_
            refine wp_iast (pc := 24) dX12_findStates_24 (by first | rfl | assumption | exact sh_house (by omega) | exact sh_wish (by omega) | exact sh_wor (by omega) | exact sh_bar (by omega) | exact sh_term (by omega) | exact sh_sheet (by omega) | exact sh_items (by omega) | exact sh_sums (by omega)) (vp_in_nI (by omega) (by decide)) ?_
            refine wp_aload_n (pc := 25) dX12_findStates_25 (by first | rfl | assumption | (repeat first | assumption | rfl | refine aG_n ?_ rfl rfl)) ?_
            refine wp_getR (pc := 26) dX12_findStates_26 fl_12_110 (by first | rfl | assumption | exact sh_house (by omega) | exact sh_wish (by omega) | exact sh_wor (by omega) | exact sh_bar (by omega) | exact sh_term (by omega) | exact sh_sheet (by omega) | exact sh_items (by omega) | exact sh_sums (by omega)) rfl ?_
            refine wp_iload_n (pc := 29) dX12_findStates_29 (by first | rfl | assumption | (repeat first | assumption | rfl | refine aG_n ?_ rfl rfl)) ?_
            refine wp_bipush (pc := 30) (v := -4) dX12_findStates_30 (by decide) ?_
            refine wp_iast (pc := 32) dX12_findStates_32 (by first | rfl | assumption | exact sh_house (by omega) | exact sh_wish (by omega) | exact sh_wor (by omega) | exact sh_bar (by omega) | exact sh_term (by omega) | exact sh_sheet (by omega) | exact sh_items (by omega) | exact sh_sums (by omega)) (vp_in_nI (by omega) (by decide)) ?_
            refine wp_aload_n (pc := 33) dX12_findStates_33 (by first | rfl | assumption | (repeat first | assumption | rfl | refine aG_n ?_ rfl rfl)) ?_
            refine wp_getR (pc := 34) dX12_findStates_34 fl_12_83 (by first | rfl | assumption | exact sh_house (by omega) | exact sh_wish (by omega) | exact sh_wor (by omega) | exact sh_bar (by omega) | exact sh_term (by omega) | exact sh_sheet (by omega) | exact sh_items (by omega) | exact sh_sums (by omega)) rfl ?_
            refine wp_iload_n (pc := 37) dX12_findStates_37 (by first | rfl | assumption | (repeat first | assumption | rfl | refine aG_n ?_ rfl rfl)) ?_
            refine wp_iald (pc := 38) dX12_findStates_38 (by first | rfl | assumption | exact sh_house (by omega) | exact sh_wish (by omega) | exact sh_wor (by omega) | exact sh_bar (by omega) | exact sh_term (by omega) | exact sh_sheet (by omega) | exact sh_items (by omega) | exact sh_sums (by omega)) (vp_in_nI (by omega) (by decide)) ?_
            refine wp_iconst (pc := 39) (v := 3) dX12_findStates_39 (by decide) ?_
            refine wp_icmp_ne (pc := 40) (tgt := 92) dX12_findStates_40 rfl (fun _ => ?_) (fun q => absurd q (by dsimp only; simp (disch := omega) only [up2_ne, ci, r111]; exact c3))
            refine wp_aload_n (pc := 92) dX12_findStates_92 (by first | rfl | assumption | (repeat first | assumption | rfl | refine aG_n ?_ rfl rfl)) ?_
            refine wp_getR (pc := 93) dX12_findStates_93 fl_12_83 (by first | rfl | assumption | exact sh_house (by omega) | exact sh_wish (by omega) | exact sh_wor (by omega) | exact sh_bar (by omega) | exact sh_term (by omega) | exact sh_sheet (by omega) | exact sh_items (by omega) | exact sh_sums (by omega)) rfl ?_
            refine wp_iload_n (pc := 96) dX12_findStates_96 (by first | rfl | assumption | (repeat first | assumption | rfl | refine aG_n ?_ rfl rfl)) ?_
            refine wp_iald (pc := 97) dX12_findStates_97 (by first | rfl | assumption | exact sh_house (by omega) | exact sh_wish (by omega) | exact sh_wor (by omega) | exact sh_bar (by omega) | exact sh_term (by omega) | exact sh_sheet (by omega) | exact sh_items (by omega) | exact sh_sums (by omega)) (vp_in_nI (by omega) (by decide)) ?_
            refine wp_if_ne (pc := 98) (tgt := 111) dX12_findStates_98 rfl (fun _ => ?_) (fun q => absurd q (by dsimp only; simp (disch := omega) only [up2_ne, ci, r111]; exact c0))
            refine wp_aload_n (pc := 111) dX12_findStates_111 (by first | rfl | assumption | (repeat first | assumption | rfl | refine aG_n ?_ rfl rfl)) ?_
            refine wp_getR (pc := 112) dX12_findStates_112 fl_12_83 (by first | rfl | assumption | exact sh_house (by omega) | exact sh_wish (by omega) | exact sh_wor (by omega) | exact sh_bar (by omega) | exact sh_term (by omega) | exact sh_sheet (by omega) | exact sh_items (by omega) | exact sh_sums (by omega)) rfl ?_
            refine wp_iload_n (pc := 115) dX12_findStates_115 (by first | rfl | assumption | (repeat first | assumption | rfl | refine aG_n ?_ rfl rfl)) ?_
            refine wp_iald (pc := 116) dX12_findStates_116 (by first | rfl | assumption | exact sh_house (by omega) | exact sh_wish (by omega) | exact sh_wor (by omega) | exact sh_bar (by omega) | exact sh_term (by omega) | exact sh_sheet (by omega) | exact sh_items (by omega) | exact sh_sums (by omega)) (vp_in_nI (by omega) (by decide)) ?_
            refine wp_iconst (pc := 117) (v := 1) dX12_findStates_117 (by decide) ?_
            refine wp_icmp_ne (pc := 118) (tgt := 157) dX12_findStates_118 rfl (fun q => absurd (by dsimp only; simp (disch := omega) only [up2_ne, ci, r111]; exact c1) q) (fun _ => ?_)
            refine wp_aload_n (pc := 121) dX12_findStates_121 (by first | rfl | assumption | (repeat first | assumption | rfl | refine aG_n ?_ rfl rfl)) ?_
            refine wp_getR (pc := 122) dX12_findStates_122 fl_12_110 (by first | rfl | assumption | exact sh_house (by omega) | exact sh_wish (by omega) | exact sh_wor (by omega) | exact sh_bar (by omega) | exact sh_term (by omega) | exact sh_sheet (by omega) | exact sh_items (by omega) | exact sh_sums (by omega)) rfl ?_
            refine wp_iload_n (pc := 125) dX12_findStates_125 (by first | rfl | assumption | (repeat first | assumption | rfl | refine aG_n ?_ rfl rfl)) ?_
            refine wp_aload_n (pc := 126) dX12_findStates_126 (by first | rfl | assumption | (repeat first | assumption | rfl | refine aG_n ?_ rfl rfl)) ?_
            refine wp_iload_n (pc := 127) dX12_findStates_127 (by first | rfl | assumption | (repeat first | assumption | rfl | refine aG_n ?_ rfl rfl)) ?_
            refine wp_iload_n (pc := 128) dX12_findStates_128 (by first | rfl | assumption | (repeat first | assumption | rfl | refine aG_n ?_ rfl rfl)) ?_
            refine wp_cV (pc := 129) dX12_findStates_129 lk_12_338 rfl (by decide) rfl (by first | rfl | assumption | exact sh_house (by omega) | exact sh_wish (by omega) | exact sh_wor (by omega) | exact sh_bar (by omega) | exact sh_term (by omega) | exact sh_sheet (by omega) | exact sh_items (by omega) | exact sh_sums (by omega)) rfl rfl ?_
            try rw [ci]
            try rw [r115]
            try rw [ee]
            refine c_X12_isKnown he (fun q => absurd q (by dsimp only; simp (disch := omega) only [knP, up2_ne]; exact c2')) (fun _ => aK_i ?_)
            refine wp_if_eq (pc := 132) (tgt := 151) dX12_findStates_132 rfl (fun _ => ?_) (fun q => absurd rfl q)
            refine wp_bipush (pc := 151) (v := -4) dX12_findStates_151 (by decide) ?_
            refine wp_iast (pc := 153) dX12_findStates_153 (by first | rfl | assumption | exact sh_house (by omega) | exact sh_wish (by omega) | exact sh_wor (by omega) | exact sh_bar (by omega) | exact sh_term (by omega) | exact sh_sheet (by omega) | exact sh_items (by omega) | exact sh_sums (by omega)) (vp_in_nI (by omega) (by decide)) ?_
            refine wp_goto (pc := 154) (tgt := 192) dX12_findStates_154 rfl ?_
            skip
            dsimp only
            rw [ci]
            exact mid _ (by unfold eO; rw [if_neg c0, if_pos c1, ae, if_neg c2]) c3 _ (by first | rfl | assumption | (repeat first | assumption | rfl | refine aG_n ?_ rfl rfl)) (by first | rfl | assumption | (repeat first | assumption | rfl | refine aG_n ?_ rfl rfl)) (by first | rfl | assumption | (repeat first | assumption | rfl | refine aG_n ?_ rfl rfl))
        · have c2 : μ.1 111 i = 2 := by
            obtain ⟨j, hj, ej⟩ := inR_of (n := 3) gx3
            rw [ej] at c0 c1 c3 ⊢
            obtain rfl | rfl | rfl | rfl : j = 0 ∨ j = 1 ∨ j = 2 ∨ j = 3 := by omega
            · exact absurd rfl c0
            · exact absurd rfl c1
            · rfl
            · exact absurd rfl c3
          obtain ⟨q, hq, eq⟩ := gx2 c2
          have aq := abt_e (M := μ.1) (by omega) eq
          have cq : (nI q).toNatClampNeg = q := nI_clamp (by omega)
          have bq : μ'.1 121 q = brV μ.1 h (μ'.1 120 q) q := (hE q hq).2.1
          have u121 : up2 (up2 μ'.1 121 i (-4)) 120 i (-4) 121 q = brV μ.1 h (μ'.1 120 q) q := by
            simp (disch := omega) only [up2_ne, up2_p]; exact bq
          by_cases c4 : brV μ.1 h (μ'.1 120 q) q = -4
          · refine wp_iload_n (pc := 2) dX12_findStates_2 (by first | rfl | assumption | (repeat first | assumption | rfl | refine aG_n ?_ rfl rfl)) ?_
            refine wp_aload_n (pc := 3) dX12_findStates_3 (by first | rfl | assumption | (repeat first | assumption | rfl | refine aG_n ?_ rfl rfl)) ?_
            refine wp_getI (pc := 4) dX12_findStates_4 fl_12_319 (by first | rfl | assumption | exact sh_house (by omega) | exact sh_wish (by omega) | exact sh_wor (by omega) | exact sh_bar (by omega) | exact sh_term (by omega) | exact sh_sheet (by omega) | exact sh_items (by omega) | exact sh_sums (by omega)) rfl ?_
            refine wp_icmp_ge (pc := 7) (tgt := 341) dX12_findStates_7 rfl (fun q => absurd q (by rw [h86]; exact nI_ge (by omega) (by omega))) (fun _ => ?_)
            refine wp_aload_n (pc := 10) dX12_findStates_10 (by first | rfl | assumption | (repeat first | assumption | rfl | refine aG_n ?_ rfl rfl)) ?_
            refine wp_getR (pc := 11) dX12_findStates_11 fl_12_95 (by first | rfl | assumption | exact sh_house (by omega) | exact sh_wish (by omega) | exact sh_wor (by omega) | exact sh_bar (by omega) | exact sh_term (by omega) | exact sh_sheet (by omega) | exact sh_items (by omega) | exact sh_sums (by omega)) rfl ?_
            refine wp_iload_n (pc := 14) dX12_findStates_14 (by first | rfl | assumption | (repeat first | assumption | rfl | refine aG_n ?_ rfl rfl)) ?_
            refine wp_iald (pc := 15) dX12_findStates_15 (by first | rfl | assumption | exact sh_house (by omega) | exact sh_wish (by omega) | exact sh_wor (by omega) | exact sh_bar (by omega) | exact sh_term (by omega) | exact sh_sheet (by omega) | exact sh_items (by omega) | exact sh_sums (by omega)) (vp_in_nI (by omega) (by decide)) ?_
            refine wp_istore_n (pc := 16) dX12_findStates_16 (by decide) ?_
            refine wp_aload_n (pc := 17) dX12_findStates_17 (by first | rfl | assumption | (repeat first | assumption | rfl | refine aG_n ?_ rfl rfl)) ?_
            refine wp_getR (pc := 18) dX12_findStates_18 fl_12_113 (by first | rfl | assumption | exact sh_house (by omega) | exact sh_wish (by omega) | exact sh_wor (by omega) | exact sh_bar (by omega) | exact sh_term (by omega) | exact sh_sheet (by omega) | exact sh_items (by omega) | exact sh_sums (by omega)) rfl ?_
            refine wp_iload_n (pc := 21) dX12_findStates_21 (by first | rfl | assumption | (repeat first | assumption | rfl | refine aG_n ?_ rfl rfl)) ?_
            refine wp_bipush (pc := 22) (v := -4) dX12_findStates_22 (by decide) ?_
            refine wp_iast (pc := 24) dX12_findStates_24 (by first | rfl | assumption | exact sh_house (by omega) | exact sh_wish (by omega) | exact sh_wor (by omega) | exact sh_bar (by omega) | exact sh_term (by omega) | exact sh_sheet (by omega) | exact sh_items (by omega) | exact sh_sums (by omega)) (vp_in_nI (by omega) (by decide)) ?_
            refine wp_aload_n (pc := 25) dX12_findStates_25 (by first | rfl | assumption | (repeat first | assumption | rfl | refine aG_n ?_ rfl rfl)) ?_
            refine wp_getR (pc := 26) dX12_findStates_26 fl_12_110 (by first | rfl | assumption | exact sh_house (by omega) | exact sh_wish (by omega) | exact sh_wor (by omega) | exact sh_bar (by omega) | exact sh_term (by omega) | exact sh_sheet (by omega) | exact sh_items (by omega) | exact sh_sums (by omega)) rfl ?_
            refine wp_iload_n (pc := 29) dX12_findStates_29 (by first | rfl | assumption | (repeat first | assumption | rfl | refine aG_n ?_ rfl rfl)) ?_
            refine wp_bipush (pc := 30) (v := -4) dX12_findStates_30 (by decide) ?_
            refine wp_iast (pc := 32) dX12_findStates_32 (by first | rfl | assumption | exact sh_house (by omega) | exact sh_wish (by omega) | exact sh_wor (by omega) | exact sh_bar (by omega) | exact sh_term (by omega) | exact sh_sheet (by omega) | exact sh_items (by omega) | exact sh_sums (by omega)) (vp_in_nI (by omega) (by decide)) ?_
            refine wp_aload_n (pc := 33) dX12_findStates_33 (by first | rfl | assumption | (repeat first | assumption | rfl | refine aG_n ?_ rfl rfl)) ?_
            refine wp_getR (pc := 34) dX12_findStates_34 fl_12_83 (by first | rfl | assumption | exact sh_house (by omega) | exact sh_wish (by omega) | exact sh_wor (by omega) | exact sh_bar (by omega) | exact sh_term (by omega) | exact sh_sheet (by omega) | exact sh_items (by omega) | exact sh_sums (by omega)) rfl ?_
            refine wp_iload_n (pc := 37) dX12_findStates_37 (by first | rfl | assumption | (repeat first | assumption | rfl | refine aG_n ?_ rfl rfl)) ?_
            refine wp_iald (pc := 38) dX12_findStates_38 (by first | rfl | assumption | exact sh_house (by omega) | exact sh_wish (by omega) | exact sh_wor (by omega) | exact sh_bar (by omega) | exact sh_term (by omega) | exact sh_sheet (by omega) | exact sh_items (by omega) | exact sh_sums (by omega)) (vp_in_nI (by omega) (by decide)) ?_
            refine wp_iconst (pc := 39) (v := 3) dX12_findStates_39 (by decide) ?_
            refine wp_icmp_ne (pc := 40) (tgt := 92) dX12_findStates_40 rfl (fun _ => ?_) (fun q => absurd q (by dsimp only; simp (disch := omega) only [up2_ne, ci, r111]; exact c3))
            refine wp_aload_n (pc := 92) dX12_findStates_92 (by first | rfl | assumption | (repeat first | assumption | rfl | refine aG_n ?_ rfl rfl)) ?_
            refine wp_getR (pc := 93) dX12_findStates_93 fl_12_83 (by first | rfl | assumption | exact sh_house (by omega) | exact sh_wish (by omega) | exact sh_wor (by omega) | exact sh_bar (by omega) | exact sh_term (by omega) | exact sh_sheet (by omega) | exact sh_items (by omega) | exact sh_sums (by omega)) rfl ?_
            refine wp_iload_n (pc := 96) dX12_findStates_96 (by first | rfl | assumption | (repeat first | assumption | rfl | refine aG_n ?_ rfl rfl)) ?_
            refine wp_iald (pc := 97) dX12_findStates_97 (by first | rfl | assumption | exact sh_house (by omega) | exact sh_wish (by omega) | exact sh_wor (by omega) | exact sh_bar (by omega) | exact sh_term (by omega) | exact sh_sheet (by omega) | exact sh_items (by omega) | exact sh_sums (by omega)) (vp_in_nI (by omega) (by decide)) ?_
            refine wp_if_ne (pc := 98) (tgt := 111) dX12_findStates_98 rfl (fun _ => ?_) (fun q => absurd q (by dsimp only; simp (disch := omega) only [up2_ne, ci, r111]; exact c0))
            refine wp_aload_n (pc := 111) dX12_findStates_111 (by first | rfl | assumption | (repeat first | assumption | rfl | refine aG_n ?_ rfl rfl)) ?_
            refine wp_getR (pc := 112) dX12_findStates_112 fl_12_83 (by first | rfl | assumption | exact sh_house (by omega) | exact sh_wish (by omega) | exact sh_wor (by omega) | exact sh_bar (by omega) | exact sh_term (by omega) | exact sh_sheet (by omega) | exact sh_items (by omega) | exact sh_sums (by omega)) rfl ?_
            refine wp_iload_n (pc := 115) dX12_findStates_115 (by first | rfl | assumption | (repeat first | assumption | rfl | refine aG_n ?_ rfl rfl)) ?_
            refine wp_iald (pc := 116) dX12_findStates_116 (by first | rfl | assumption | exact sh_house (by omega) | exact sh_wish (by omega) | exact sh_wor (by omega) | exact sh_bar (by omega) | exact sh_term (by omega) | exact sh_sheet (by omega) | exact sh_items (by omega) | exact sh_sums (by omega)) (vp_in_nI (by omega) (by decide)) ?_
            refine wp_iconst (pc := 117) (v := 1) dX12_findStates_117 (by decide) ?_
            refine wp_icmp_ne (pc := 118) (tgt := 157) dX12_findStates_118 rfl (fun _ => ?_) (fun q => absurd q (by dsimp only; simp (disch := omega) only [up2_ne, ci, r111]; exact c1))
            refine wp_aload_n (pc := 157) dX12_findStates_157 (by first | rfl | assumption | (repeat first | assumption | rfl | refine aG_n ?_ rfl rfl)) ?_
            refine wp_getR (pc := 158) dX12_findStates_158 fl_12_110 (by first | rfl | assumption | exact sh_house (by omega) | exact sh_wish (by omega) | exact sh_wor (by omega) | exact sh_bar (by omega) | exact sh_term (by omega) | exact sh_sheet (by omega) | exact sh_items (by omega) | exact sh_sums (by omega)) rfl ?_
            refine wp_iload_n (pc := 161) dX12_findStates_161 (by first | rfl | assumption | (repeat first | assumption | rfl | refine aG_n ?_ rfl rfl)) ?_
            refine wp_aload_n (pc := 162) dX12_findStates_162 (by first | rfl | assumption | (repeat first | assumption | rfl | refine aG_n ?_ rfl rfl)) ?_
            refine wp_getR (pc := 163) dX12_findStates_163 fl_12_113 (by first | rfl | assumption | exact sh_house (by omega) | exact sh_wish (by omega) | exact sh_wor (by omega) | exact sh_bar (by omega) | exact sh_term (by omega) | exact sh_sheet (by omega) | exact sh_items (by omega) | exact sh_sums (by omega)) rfl ?_
            refine wp_iload_n (pc := 166) dX12_findStates_166 (by first | rfl | assumption | (repeat first | assumption | rfl | refine aG_n ?_ rfl rfl)) ?_
            refine wp_iald (pc := 167) dX12_findStates_167 (by first | rfl | assumption | exact sh_house (by omega) | exact sh_wish (by omega) | exact sh_wor (by omega) | exact sh_bar (by omega) | exact sh_term (by omega) | exact sh_sheet (by omega) | exact sh_items (by omega) | exact sh_sums (by omega)) (by (try dsimp only); (try rw [ci]); (try rw [r115]); (try rw [eq]); exact vp_in_nI (by omega) (by decide)) ?_
            refine wp_bipush (pc := 168) (v := -4) dX12_findStates_168 (by decide) ?_
            refine wp_icmp_eq (pc := 170) (tgt := 189) dX12_findStates_170 rfl (fun _ => ?_) (fun q => absurd (by dsimp only; rw [ci, r115, eq, cq, u121]; exact c4) q)
            refine wp_bipush (pc := 189) (v := -4) dX12_findStates_189 (by decide) ?_
            refine wp_iast (pc := 191) dX12_findStates_191 (by first | rfl | assumption | exact sh_house (by omega) | exact sh_wish (by omega) | exact sh_wor (by omega) | exact sh_bar (by omega) | exact sh_term (by omega) | exact sh_sheet (by omega) | exact sh_items (by omega) | exact sh_sums (by omega)) (vp_in_nI (by omega) (by decide)) ?_
            skip
            dsimp only
            rw [ci]
            exact mid _ (by unfold eO; rw [if_neg c0, if_neg c1, if_pos c2, aq, if_pos c4]) c3 _ (by first | rfl | assumption | (repeat first | assumption | rfl | refine aG_n ?_ rfl rfl)) (by first | rfl | assumption | (repeat first | assumption | rfl | refine aG_n ?_ rfl rfl)) (by first | rfl | assumption | (repeat first | assumption | rfl | refine aG_n ?_ rfl rfl))
          · refine wp_iload_n (pc := 2) dX12_findStates_2 (by first | rfl | assumption | (repeat first | assumption | rfl | refine aG_n ?_ rfl rfl)) ?_
            refine wp_aload_n (pc := 3) dX12_findStates_3 (by first | rfl | assumption | (repeat first | assumption | rfl | refine aG_n ?_ rfl rfl)) ?_
            refine wp_getI (pc := 4) dX12_findStates_4 fl_12_319 (by first | rfl | assumption | exact sh_house (by omega) | exact sh_wish (by omega) | exact sh_wor (by omega) | exact sh_bar (by omega) | exact sh_term (by omega) | exact sh_sheet (by omega) | exact sh_items (by omega) | exact sh_sums (by omega)) rfl ?_
            refine wp_icmp_ge (pc := 7) (tgt := 341) dX12_findStates_7 rfl (fun q => absurd q (by rw [h86]; exact nI_ge (by omega) (by omega))) (fun _ => ?_)
            refine wp_aload_n (pc := 10) dX12_findStates_10 (by first | rfl | assumption | (repeat first | assumption | rfl | refine aG_n ?_ rfl rfl)) ?_
            refine wp_getR (pc := 11) dX12_findStates_11 fl_12_95 (by first | rfl | assumption | exact sh_house (by omega) | exact sh_wish (by omega) | exact sh_wor (by omega) | exact sh_bar (by omega) | exact sh_term (by omega) | exact sh_sheet (by omega) | exact sh_items (by omega) | exact sh_sums (by omega)) rfl ?_
            refine wp_iload_n (pc := 14) dX12_findStates_14 (by first | rfl | assumption | (repeat first | assumption | rfl | refine aG_n ?_ rfl rfl)) ?_
            refine wp_iald (pc := 15) dX12_findStates_15 (by first | rfl | assumption | exact sh_house (by omega) | exact sh_wish (by omega) | exact sh_wor (by omega) | exact sh_bar (by omega) | exact sh_term (by omega) | exact sh_sheet (by omega) | exact sh_items (by omega) | exact sh_sums (by omega)) (vp_in_nI (by omega) (by decide)) ?_
            refine wp_istore_n (pc := 16) dX12_findStates_16 (by decide) ?_
            refine wp_aload_n (pc := 17) dX12_findStates_17 (by first | rfl | assumption | (repeat first | assumption | rfl | refine aG_n ?_ rfl rfl)) ?_
            refine wp_getR (pc := 18) dX12_findStates_18 fl_12_113 (by first | rfl | assumption | exact sh_house (by omega) | exact sh_wish (by omega) | exact sh_wor (by omega) | exact sh_bar (by omega) | exact sh_term (by omega) | exact sh_sheet (by omega) | exact sh_items (by omega) | exact sh_sums (by omega)) rfl ?_
            refine wp_iload_n (pc := 21) dX12_findStates_21 (by first | rfl | assumption | (repeat first | assumption | rfl | refine aG_n ?_ rfl rfl)) ?_
            refine wp_bipush (pc := 22) (v := -4) dX12_findStates_22 (by decide) ?_
            refine wp_iast (pc := 24) dX12_findStates_24 (by first | rfl | assumption | exact sh_house (by omega) | exact sh_wish (by omega) | exact sh_wor (by omega) | exact sh_bar (by omega) | exact sh_term (by omega) | exact sh_sheet (by omega) | exact sh_items (by omega) | exact sh_sums (by omega)) (vp_in_nI (by omega) (by decide)) ?_
            refine wp_aload_n (pc := 25) dX12_findStates_25 (by first | rfl | assumption | (repeat first | assumption | rfl | refine aG_n ?_ rfl rfl)) ?_
            refine wp_getR (pc := 26) dX12_findStates_26 fl_12_110 (by first | rfl | assumption | exact sh_house (by omega) | exact sh_wish (by omega) | exact sh_wor (by omega) | exact sh_bar (by omega) | exact sh_term (by omega) | exact sh_sheet (by omega) | exact sh_items (by omega) | exact sh_sums (by omega)) rfl ?_
            refine wp_iload_n (pc := 29) dX12_findStates_29 (by first | rfl | assumption | (repeat first | assumption | rfl | refine aG_n ?_ rfl rfl)) ?_
            refine wp_bipush (pc := 30) (v := -4) dX12_findStates_30 (by decide) ?_
            refine wp_iast (pc := 32) dX12_findStates_32 (by first | rfl | assumption | exact sh_house (by omega) | exact sh_wish (by omega) | exact sh_wor (by omega) | exact sh_bar (by omega) | exact sh_term (by omega) | exact sh_sheet (by omega) | exact sh_items (by omega) | exact sh_sums (by omega)) (vp_in_nI (by omega) (by decide)) ?_
            refine wp_aload_n (pc := 33) dX12_findStates_33 (by first | rfl | assumption | (repeat first | assumption | rfl | refine aG_n ?_ rfl rfl)) ?_
            refine wp_getR (pc := 34) dX12_findStates_34 fl_12_83 (by first | rfl | assumption | exact sh_house (by omega) | exact sh_wish (by omega) | exact sh_wor (by omega) | exact sh_bar (by omega) | exact sh_term (by omega) | exact sh_sheet (by omega) | exact sh_items (by omega) | exact sh_sums (by omega)) rfl ?_
            refine wp_iload_n (pc := 37) dX12_findStates_37 (by first | rfl | assumption | (repeat first | assumption | rfl | refine aG_n ?_ rfl rfl)) ?_
            refine wp_iald (pc := 38) dX12_findStates_38 (by first | rfl | assumption | exact sh_house (by omega) | exact sh_wish (by omega) | exact sh_wor (by omega) | exact sh_bar (by omega) | exact sh_term (by omega) | exact sh_sheet (by omega) | exact sh_items (by omega) | exact sh_sums (by omega)) (vp_in_nI (by omega) (by decide)) ?_
            refine wp_iconst (pc := 39) (v := 3) dX12_findStates_39 (by decide) ?_
            refine wp_icmp_ne (pc := 40) (tgt := 92) dX12_findStates_40 rfl (fun _ => ?_) (fun q => absurd q (by dsimp only; simp (disch := omega) only [up2_ne, ci, r111]; exact c3))
            refine wp_aload_n (pc := 92) dX12_findStates_92 (by first | rfl | assumption | (repeat first | assumption | rfl | refine aG_n ?_ rfl rfl)) ?_
            refine wp_getR (pc := 93) dX12_findStates_93 fl_12_83 (by first | rfl | assumption | exact sh_house (by omega) | exact sh_wish (by omega) | exact sh_wor (by omega) | exact sh_bar (by omega) | exact sh_term (by omega) | exact sh_sheet (by omega) | exact sh_items (by omega) | exact sh_sums (by omega)) rfl ?_
            refine wp_iload_n (pc := 96) dX12_findStates_96 (by first | rfl | assumption | (repeat first | assumption | rfl | refine aG_n ?_ rfl rfl)) ?_
            refine wp_iald (pc := 97) dX12_findStates_97 (by first | rfl | assumption | exact sh_house (by omega) | exact sh_wish (by omega) | exact sh_wor (by omega) | exact sh_bar (by omega) | exact sh_term (by omega) | exact sh_sheet (by omega) | exact sh_items (by omega) | exact sh_sums (by omega)) (vp_in_nI (by omega) (by decide)) ?_
            refine wp_if_ne (pc := 98) (tgt := 111) dX12_findStates_98 rfl (fun _ => ?_) (fun q => absurd q (by dsimp only; simp (disch := omega) only [up2_ne, ci, r111]; exact c0))
            refine wp_aload_n (pc := 111) dX12_findStates_111 (by first | rfl | assumption | (repeat first | assumption | rfl | refine aG_n ?_ rfl rfl)) ?_
            refine wp_getR (pc := 112) dX12_findStates_112 fl_12_83 (by first | rfl | assumption | exact sh_house (by omega) | exact sh_wish (by omega) | exact sh_wor (by omega) | exact sh_bar (by omega) | exact sh_term (by omega) | exact sh_sheet (by omega) | exact sh_items (by omega) | exact sh_sums (by omega)) rfl ?_
            refine wp_iload_n (pc := 115) dX12_findStates_115 (by first | rfl | assumption | (repeat first | assumption | rfl | refine aG_n ?_ rfl rfl)) ?_
            refine wp_iald (pc := 116) dX12_findStates_116 (by first | rfl | assumption | exact sh_house (by omega) | exact sh_wish (by omega) | exact sh_wor (by omega) | exact sh_bar (by omega) | exact sh_term (by omega) | exact sh_sheet (by omega) | exact sh_items (by omega) | exact sh_sums (by omega)) (vp_in_nI (by omega) (by decide)) ?_
            refine wp_iconst (pc := 117) (v := 1) dX12_findStates_117 (by decide) ?_
            refine wp_icmp_ne (pc := 118) (tgt := 157) dX12_findStates_118 rfl (fun _ => ?_) (fun q => absurd q (by dsimp only; simp (disch := omega) only [up2_ne, ci, r111]; exact c1))
            refine wp_aload_n (pc := 157) dX12_findStates_157 (by first | rfl | assumption | (repeat first | assumption | rfl | refine aG_n ?_ rfl rfl)) ?_
            refine wp_getR (pc := 158) dX12_findStates_158 fl_12_110 (by first | rfl | assumption | exact sh_house (by omega) | exact sh_wish (by omega) | exact sh_wor (by omega) | exact sh_bar (by omega) | exact sh_term (by omega) | exact sh_sheet (by omega) | exact sh_items (by omega) | exact sh_sums (by omega)) rfl ?_
            refine wp_iload_n (pc := 161) dX12_findStates_161 (by first | rfl | assumption | (repeat first | assumption | rfl | refine aG_n ?_ rfl rfl)) ?_
            refine wp_aload_n (pc := 162) dX12_findStates_162 (by first | rfl | assumption | (repeat first | assumption | rfl | refine aG_n ?_ rfl rfl)) ?_
            refine wp_getR (pc := 163) dX12_findStates_163 fl_12_113 (by first | rfl | assumption | exact sh_house (by omega) | exact sh_wish (by omega) | exact sh_wor (by omega) | exact sh_bar (by omega) | exact sh_term (by omega) | exact sh_sheet (by omega) | exact sh_items (by omega) | exact sh_sums (by omega)) rfl ?_
            refine wp_iload_n (pc := 166) dX12_findStates_166 (by first | rfl | assumption | (repeat first | assumption | rfl | refine aG_n ?_ rfl rfl)) ?_
            refine wp_iald (pc := 167) dX12_findStates_167 (by first | rfl | assumption | exact sh_house (by omega) | exact sh_wish (by omega) | exact sh_wor (by omega) | exact sh_bar (by omega) | exact sh_term (by omega) | exact sh_sheet (by omega) | exact sh_items (by omega) | exact sh_sums (by omega)) (by (try dsimp only); (try rw [ci]); (try rw [r115]); (try rw [eq]); exact vp_in_nI (by omega) (by decide)) ?_
            refine wp_bipush (pc := 168) (v := -4) dX12_findStates_168 (by decide) ?_
            refine wp_icmp_eq (pc := 170) (tgt := 189) dX12_findStates_170 rfl (fun q => absurd q (by dsimp only; rw [ci, r115, eq, cq, u121]; exact c4)) (fun _ => ?_)
            refine wp_aload_n (pc := 173) dX12_findStates_173 (by first | rfl | assumption | (repeat first | assumption | rfl | refine aG_n ?_ rfl rfl)) ?_
            refine wp_getR (pc := 174) dX12_findStates_174 fl_12_113 (by first | rfl | assumption | exact sh_house (by omega) | exact sh_wish (by omega) | exact sh_wor (by omega) | exact sh_bar (by omega) | exact sh_term (by omega) | exact sh_sheet (by omega) | exact sh_items (by omega) | exact sh_sums (by omega)) rfl ?_
            refine wp_iload_n (pc := 177) dX12_findStates_177 (by first | rfl | assumption | (repeat first | assumption | rfl | refine aG_n ?_ rfl rfl)) ?_
            refine wp_iald (pc := 178) dX12_findStates_178 (by first | rfl | assumption | exact sh_house (by omega) | exact sh_wish (by omega) | exact sh_wor (by omega) | exact sh_bar (by omega) | exact sh_term (by omega) | exact sh_sheet (by omega) | exact sh_items (by omega) | exact sh_sums (by omega)) (by (try dsimp only); (try rw [ci]); (try rw [r115]); (try rw [eq]); exact vp_in_nI (by omega) (by decide)) ?_
            refine wp_aload_n (pc := 179) dX12_findStates_179 (by first | rfl | assumption | (repeat first | assumption | rfl | refine aG_n ?_ rfl rfl)) ?_
            refine wp_getR (pc := 180) dX12_findStates_180 fl_12_98 (by first | rfl | assumption | exact sh_house (by omega) | exact sh_wish (by omega) | exact sh_wor (by omega) | exact sh_bar (by omega) | exact sh_term (by omega) | exact sh_sheet (by omega) | exact sh_items (by omega) | exact sh_sums (by omega)) rfl ?_
            refine wp_iload_n (pc := 183) dX12_findStates_183 (by first | rfl | assumption | (repeat first | assumption | rfl | refine aG_n ?_ rfl rfl)) ?_
            refine wp_iald (pc := 184) dX12_findStates_184 (by first | rfl | assumption | exact sh_house (by omega) | exact sh_wish (by omega) | exact sh_wor (by omega) | exact sh_bar (by omega) | exact sh_term (by omega) | exact sh_sheet (by omega) | exact sh_items (by omega) | exact sh_sums (by omega)) (vp_in_nI (by omega) (by decide)) ?_
            refine wp_iadd (pc := 185) dX12_findStates_185 ?_
            refine wp_goto (pc := 186) (tgt := 191) dX12_findStates_186 rfl ?_
            refine wp_iast (pc := 191) dX12_findStates_191 (by first | rfl | assumption | exact sh_house (by omega) | exact sh_wish (by omega) | exact sh_wor (by omega) | exact sh_bar (by omega) | exact sh_term (by omega) | exact sh_sheet (by omega) | exact sh_items (by omega) | exact sh_sums (by omega)) (vp_in_nI (by omega) (by decide)) ?_
            skip
            dsimp only
            rw [ci, r115, eq, cq, u121, up2_ne (show 116 ≠ 120 by decide), up2_ne (show 116 ≠ 121 by decide), r116]
            exact mid _ (by unfold eO; rw [if_neg c0, if_neg c1, if_pos c2, aq, if_neg c4]) c3 _ (by first | rfl | assumption | (repeat first | assumption | rfl | refine aG_n ?_ rfl rfl)) (by first | rfl | assumption | (repeat first | assumption | rfl | refine aG_n ?_ rfl rfl)) (by first | rfl | assumption | (repeat first | assumption | rfl | refine aG_n ?_ rfl rfl))
theorem c_X12_findStates (hL : LT μ.1 n) (k : ∀ μ' : Mm, (∀ c, ¬ (c = 120 ∨ c = 121 ∨ c = 122) → μ'.1 c = μ.1 c) → μ'.2 = μ.2 → (∀ i, i < n → fsP μ.1 h μ'.1 i) → Q none μ') : WP X mX12_findStates 0 (lv_args 0 [.ref 86, .int h]) [] μ Q := by
  refine wp_iconst (pc := 0) (v := 0) dX12_findStates_0 (by decide) ?_
  refine wp_istore_n (pc := 1) dX12_findStates_1 (by decide) ?_
  exact l_fs hL k n 0 (by omega) _ (fun c hc => rfl) rfl (fun j hj => absurd hj (by omega)) _ (by first | rfl | assumption | (repeat first | assumption | rfl | refine aG_n ?_ rfl rfl)) (by first | rfl | assumption | (repeat first | assumption | rfl | refine aG_n ?_ rfl rfl)) (by first | rfl | assumption | (repeat first | assumption | rfl | refine aG_n ?_ rfl rfl))
end FS
/-- what the two sides reckon of the terms leaves all else as it was -/
theorem Inv_st {μ μ1 μ2 : Mm} (hI : Inv μ) (h1 : ∀ c, c ≠ 33 → μ1.1 c = μ.1 c) (r1 : μ1.2 = μ.2) (h2 : ∀ c, ¬ (c = 120 ∨ c = 121 ∨ c = 122) → μ2.1 c = μ1.1 c) (r2 : μ2.2 = μ1.2) : Inv μ2 := by
  obtain ⟨M2, R2⟩ := μ2
  obtain ⟨M, R⟩ := μ
  refine Inv_s hI (fun c j hc => ?_) (by rw [show R2 = R from r2.trans r1])
  unfold scr at hc
  have e2 := h2 c (by omega)
  have e1 := h1 c (by omega)
  show M2 c j = M c j
  rw [show M2 c = M c from e2.trans e1]
theorem J_state (t h : Int32) : Jnt mX11_state mX12_state [.int t, .int h] := by
  intro X μ Q hI k
  obtain ⟨n, hL⟩ := LT_of hI.2.2.2.2.2.2.1
  have hn := hL.1
  by_cases c1 : inT t n
  · by_cases c2 : inR h 0 9999
    · obtain ⟨i, hi, rfl⟩ := inT_of c1
      refine wp_aload_n (pc := 0) dX11_state_0 (by first | rfl | assumption | (repeat first | assumption | rfl | refine aG_n ?_ rfl rfl)) ?_
      refine wp_getR (pc := 1) dX11_state_1 fl_11_53 (by first | rfl | assumption | exact sh_house (by omega) | exact sh_wish (by omega) | exact sh_wor (by omega) | exact sh_bar (by omega) | exact sh_term (by omega) | exact sh_sheet (by omega) | exact sh_items (by omega) | exact sh_sums (by omega)) rfl ?_
      refine wp_iload_n (pc := 4) dX11_state_4 (by first | rfl | assumption | (repeat first | assumption | rfl | refine aG_n ?_ rfl rfl)) ?_
      refine wp_cV (pc := 5) dX11_state_5 lk_11_303 rfl (by decide) rfl (by first | rfl | assumption | exact sh_house (by omega) | exact sh_wish (by omega) | exact sh_wor (by omega) | exact sh_bar (by omega) | exact sh_term (by omega) | exact sh_sheet (by omega) | exact sh_items (by omega) | exact sh_sums (by omega)) rfl rfl (c_X2_hasTerm hn hL.2.1 (fun _ => aK_i ?_) (fun q => absurd c1 q))
      refine wp_if_eq (pc := 8) (tgt := 18) dX11_state_8 rfl (fun q => absurd q (by decide)) (fun _ => ?_)
      refine wp_iload_n (pc := 11) dX11_state_11 (by first | rfl | assumption | (repeat first | assumption | rfl | refine aG_n ?_ rfl rfl)) ?_
      refine wp_cS (pc := 12) dX11_state_12 lk_11_294 rfl rfl rfl (c_X11_isHour (fun _ => aK_i ?_) (fun q => absurd c2 q))
      refine wp_if_ne (pc := 15) (tgt := 20) dX11_state_15 rfl (fun _ => ?_) (fun q => absurd q (by decide))
      refine wp_aload_n (pc := 20) dX11_state_20 (by first | rfl | assumption | (repeat first | assumption | rfl | refine aG_n ?_ rfl rfl)) ?_
      refine wp_getR (pc := 21) dX11_state_21 fl_11_53 (by first | rfl | assumption | exact sh_house (by omega) | exact sh_wish (by omega) | exact sh_wor (by omega) | exact sh_bar (by omega) | exact sh_term (by omega) | exact sh_sheet (by omega) | exact sh_items (by omega) | exact sh_sums (by omega)) rfl ?_
      refine wp_iload_n (pc := 24) dX11_state_24 (by first | rfl | assumption | (repeat first | assumption | rfl | refine aG_n ?_ rfl rfl)) ?_
      refine wp_cV (pc := 25) dX11_state_25 lk_11_334 rfl (by decide) rfl (by first | rfl | assumption | exact sh_house (by omega) | exact sh_wish (by omega) | exact sh_wor (by omega) | exact sh_bar (by omega) | exact sh_term (by omega) | exact sh_sheet (by omega) | exact sh_items (by omega) | exact sh_sums (by omega)) rfl rfl ?_
      refine c_X2_settle hL (fun μ1 s1 r1 e1 => aK_v ?_)
      have hL1 : LT μ1.1 n := LT_c hL (fun c hc => s1 c (by omega))
      refine wp_aload_n (pc := 28) dX11_state_28 (by first | rfl | assumption | (repeat first | assumption | rfl | refine aG_n ?_ rfl rfl)) ?_
      refine wp_getR (pc := 29) dX11_state_29 fl_11_53 (by first | rfl | assumption | exact sh_house (by omega) | exact sh_wish (by omega) | exact sh_wor (by omega) | exact sh_bar (by omega) | exact sh_term (by omega) | exact sh_sheet (by omega) | exact sh_items (by omega) | exact sh_sums (by omega)) rfl ?_
      refine wp_iload_n (pc := 32) dX11_state_32 (by first | rfl | assumption | (repeat first | assumption | rfl | refine aG_n ?_ rfl rfl)) ?_
      refine wp_iload_n (pc := 33) dX11_state_33 (by first | rfl | assumption | (repeat first | assumption | rfl | refine aG_n ?_ rfl rfl)) ?_
      refine wp_cV (pc := 34) dX11_state_34 lk_11_337 rfl (by decide) rfl (by first | rfl | assumption | exact sh_house (by omega) | exact sh_wish (by omega) | exact sh_wor (by omega) | exact sh_bar (by omega) | exact sh_term (by omega) | exact sh_sheet (by omega) | exact sh_items (by omega) | exact sh_sums (by omega)) rfl rfl (c_X2_stateOf hL1 hi (aK_i ?_))
      refine wp_ireturn (pc := 37) dX11_state_37 rfl (by first | rfl | decide | assumption) ?_
      refine k _ _ (fun Q' k' => ?_)
      refine wp_aload_n (pc := 0) dX12_state_0 (by first | rfl | assumption | (repeat first | assumption | rfl | refine aG_n ?_ rfl rfl)) ?_
      refine wp_iload_n (pc := 1) dX12_state_1 (by first | rfl | assumption | (repeat first | assumption | rfl | refine aG_n ?_ rfl rfl)) ?_
      refine wp_cV (pc := 2) dX12_state_2 lk_12_335 rfl (by decide) rfl (by first | rfl | assumption | exact sh_house (by omega) | exact sh_wish (by omega) | exact sh_wor (by omega) | exact sh_bar (by omega) | exact sh_term (by omega) | exact sh_sheet (by omega) | exact sh_items (by omega) | exact sh_sums (by omega)) rfl rfl (c_X12_isTerm hn hL1.2.2.1 (fun _ => aK_i ?_) (fun q => absurd c1 q))
      refine wp_if_eq (pc := 5) (tgt := 15) dX12_state_5 rfl (fun q => absurd q (by decide)) (fun _ => ?_)
      refine wp_iload_n (pc := 8) dX12_state_8 (by first | rfl | assumption | (repeat first | assumption | rfl | refine aG_n ?_ rfl rfl)) ?_
      refine wp_cS (pc := 9) dX12_state_9 lk_12_326 rfl rfl rfl (c_X12_isHour (fun _ => aK_i ?_) (fun q => absurd c2 q))
      refine wp_if_ne (pc := 12) (tgt := 17) dX12_state_12 rfl (fun _ => ?_) (fun q => absurd q (by decide))
      refine wp_aload_n (pc := 17) dX12_state_17 (by first | rfl | assumption | (repeat first | assumption | rfl | refine aG_n ?_ rfl rfl)) ?_
      refine wp_iload_n (pc := 18) dX12_state_18 (by first | rfl | assumption | (repeat first | assumption | rfl | refine aG_n ?_ rfl rfl)) ?_
      refine wp_cV (pc := 19) dX12_state_19 lk_12_341 rfl (by decide) rfl (by first | rfl | assumption | exact sh_house (by omega) | exact sh_wish (by omega) | exact sh_wor (by omega) | exact sh_bar (by omega) | exact sh_term (by omega) | exact sh_sheet (by omega) | exact sh_items (by omega) | exact sh_sums (by omega)) rfl rfl ?_
      refine c_X12_findStates hL1 (fun μ2 s2 r2 e2 => aK_v ?_)
      refine wp_aload_n (pc := 22) dX12_state_22 (by first | rfl | assumption | (repeat first | assumption | rfl | refine aG_n ?_ rfl rfl)) ?_
      refine wp_getR (pc := 23) dX12_state_23 fl_12_116 (by first | rfl | assumption | exact sh_house (by omega) | exact sh_wish (by omega) | exact sh_wor (by omega) | exact sh_bar (by omega) | exact sh_term (by omega) | exact sh_sheet (by omega) | exact sh_items (by omega) | exact sh_sums (by omega)) rfl ?_
      refine wp_iload_n (pc := 26) dX12_state_26 (by first | rfl | assumption | (repeat first | assumption | rfl | refine aG_n ?_ rfl rfl)) ?_
      refine wp_iald (pc := 27) dX12_state_27 (by first | rfl | assumption | exact sh_house (by omega) | exact sh_wish (by omega) | exact sh_wor (by omega) | exact sh_bar (by omega) | exact sh_term (by omega) | exact sh_sheet (by omega) | exact sh_items (by omega) | exact sh_sums (by omega)) (vp_in_nI (by omega) (by decide)) ?_
      refine wp_ireturn (pc := 28) dX12_state_28 rfl (by first | rfl | decide | assumption) ?_
      refine qEq ?_ (k' _ (Inv_st hI s1 r1 s2 r2))
      have hm : ∀ c, 111 ≤ c → c ≤ 119 → μ1.1 c = μ.1 c := fun c _ _ => s1 c (by omega)
      have eu := eO_u (h := h) (E := μ1.1 33) (E' := μ2.1 120) hL (fun i hi => e1 i hi) (fun i hi => by rw [← eO_m hm]; exact (e2 i hi).1) i hi
      rw [nI_clamp (by omega), (e2 i hi).2.2, eu]
    · refine wp_aload_n (pc := 0) dX11_state_0 (by first | rfl | assumption | (repeat first | assumption | rfl | refine aG_n ?_ rfl rfl)) ?_
      refine wp_getR (pc := 1) dX11_state_1 fl_11_53 (by first | rfl | assumption | exact sh_house (by omega) | exact sh_wish (by omega) | exact sh_wor (by omega) | exact sh_bar (by omega) | exact sh_term (by omega) | exact sh_sheet (by omega) | exact sh_items (by omega) | exact sh_sums (by omega)) rfl ?_
      refine wp_iload_n (pc := 4) dX11_state_4 (by first | rfl | assumption | (repeat first | assumption | rfl | refine aG_n ?_ rfl rfl)) ?_
      refine wp_cV (pc := 5) dX11_state_5 lk_11_303 rfl (by decide) rfl (by first | rfl | assumption | exact sh_house (by omega) | exact sh_wish (by omega) | exact sh_wor (by omega) | exact sh_bar (by omega) | exact sh_term (by omega) | exact sh_sheet (by omega) | exact sh_items (by omega) | exact sh_sums (by omega)) rfl rfl (c_X2_hasTerm hn hL.2.1 (fun _ => aK_i ?_) (fun q => absurd c1 q))
      refine wp_if_eq (pc := 8) (tgt := 18) dX11_state_8 rfl (fun q => absurd q (by decide)) (fun _ => ?_)
      refine wp_iload_n (pc := 11) dX11_state_11 (by first | rfl | assumption | (repeat first | assumption | rfl | refine aG_n ?_ rfl rfl)) ?_
      refine wp_cS (pc := 12) dX11_state_12 lk_11_294 rfl rfl rfl (c_X11_isHour (fun q => absurd q c2) (fun _ => aK_i ?_))
      refine wp_if_ne (pc := 15) (tgt := 20) dX11_state_15 rfl (fun q => absurd q (by decide)) (fun _ => ?_)
      refine wp_iconst (pc := 18) (v := -1) dX11_state_18 (by decide) ?_
      refine wp_ireturn (pc := 19) dX11_state_19 rfl (by first | rfl | decide | assumption) ?_
      refine k _ _ (fun Q' k' => ?_)
      refine wp_aload_n (pc := 0) dX12_state_0 (by first | rfl | assumption | (repeat first | assumption | rfl | refine aG_n ?_ rfl rfl)) ?_
      refine wp_iload_n (pc := 1) dX12_state_1 (by first | rfl | assumption | (repeat first | assumption | rfl | refine aG_n ?_ rfl rfl)) ?_
      refine wp_cV (pc := 2) dX12_state_2 lk_12_335 rfl (by decide) rfl (by first | rfl | assumption | exact sh_house (by omega) | exact sh_wish (by omega) | exact sh_wor (by omega) | exact sh_bar (by omega) | exact sh_term (by omega) | exact sh_sheet (by omega) | exact sh_items (by omega) | exact sh_sums (by omega)) rfl rfl (c_X12_isTerm hn hL.2.2.1 (fun _ => aK_i ?_) (fun q => absurd c1 q))
      refine wp_if_eq (pc := 5) (tgt := 15) dX12_state_5 rfl (fun q => absurd q (by decide)) (fun _ => ?_)
      refine wp_iload_n (pc := 8) dX12_state_8 (by first | rfl | assumption | (repeat first | assumption | rfl | refine aG_n ?_ rfl rfl)) ?_
      refine wp_cS (pc := 9) dX12_state_9 lk_12_326 rfl rfl rfl (c_X12_isHour (fun q => absurd q c2) (fun _ => aK_i ?_))
      refine wp_if_ne (pc := 12) (tgt := 17) dX12_state_12 rfl (fun q => absurd q (by decide)) (fun _ => ?_)
      refine wp_iconst (pc := 15) (v := -1) dX12_state_15 (by decide) ?_
      refine wp_ireturn (pc := 16) dX12_state_16 rfl (by first | rfl | decide | assumption) ?_
      exact k' _ hI
  · refine wp_aload_n (pc := 0) dX11_state_0 (by first | rfl | assumption | (repeat first | assumption | rfl | refine aG_n ?_ rfl rfl)) ?_
    refine wp_getR (pc := 1) dX11_state_1 fl_11_53 (by first | rfl | assumption | exact sh_house (by omega) | exact sh_wish (by omega) | exact sh_wor (by omega) | exact sh_bar (by omega) | exact sh_term (by omega) | exact sh_sheet (by omega) | exact sh_items (by omega) | exact sh_sums (by omega)) rfl ?_
    refine wp_iload_n (pc := 4) dX11_state_4 (by first | rfl | assumption | (repeat first | assumption | rfl | refine aG_n ?_ rfl rfl)) ?_
    refine wp_cV (pc := 5) dX11_state_5 lk_11_303 rfl (by decide) rfl (by first | rfl | assumption | exact sh_house (by omega) | exact sh_wish (by omega) | exact sh_wor (by omega) | exact sh_bar (by omega) | exact sh_term (by omega) | exact sh_sheet (by omega) | exact sh_items (by omega) | exact sh_sums (by omega)) rfl rfl (c_X2_hasTerm hn hL.2.1 (fun q => absurd q c1) (fun _ => aK_i ?_))
    refine wp_if_eq (pc := 8) (tgt := 18) dX11_state_8 rfl (fun _ => ?_) (fun q => absurd q (by decide))
    refine wp_iconst (pc := 18) (v := -1) dX11_state_18 (by decide) ?_
    refine wp_ireturn (pc := 19) dX11_state_19 rfl (by first | rfl | decide | assumption) ?_
    refine k _ _ (fun Q' k' => ?_)
    refine wp_aload_n (pc := 0) dX12_state_0 (by first | rfl | assumption | (repeat first | assumption | rfl | refine aG_n ?_ rfl rfl)) ?_
    refine wp_iload_n (pc := 1) dX12_state_1 (by first | rfl | assumption | (repeat first | assumption | rfl | refine aG_n ?_ rfl rfl)) ?_
    refine wp_cV (pc := 2) dX12_state_2 lk_12_335 rfl (by decide) rfl (by first | rfl | assumption | exact sh_house (by omega) | exact sh_wish (by omega) | exact sh_wor (by omega) | exact sh_bar (by omega) | exact sh_term (by omega) | exact sh_sheet (by omega) | exact sh_items (by omega) | exact sh_sums (by omega)) rfl rfl (c_X12_isTerm hn hL.2.2.1 (fun q => absurd q c1) (fun _ => aK_i ?_))
    refine wp_if_eq (pc := 5) (tgt := 15) dX12_state_5 rfl (fun _ => ?_) (fun q => absurd q (by decide))
    refine wp_iconst (pc := 15) (v := -1) dX12_state_15 (by decide) ?_
    refine wp_ireturn (pc := 16) dX12_state_16 rfl (by first | rfl | decide | assumption) ?_
    exact k' _ hI
theorem J_end (t h : Int32) : Jnt mX11_end mX12_end [.int t, .int h] := by
  intro X μ Q hI k
  obtain ⟨n, hL⟩ := LT_of hI.2.2.2.2.2.2.1
  have hn := hL.1
  by_cases c1 : inT t n
  · by_cases c2 : inR h 0 9999
    · obtain ⟨i, hi, rfl⟩ := inT_of c1
      have ci : (nI i).toNatClampNeg = i := nI_clamp (by omega)
      obtain ⟨⟨f0, -⟩, -⟩ := hL.2.2.2.1 i hi
      by_cases c3 : μ.1 111 i = 3
      · refine wp_aload_n (pc := 0) dX11_end_0 (by first | rfl | assumption | (repeat first | assumption | rfl | refine aG_n ?_ rfl rfl)) ?_
        refine wp_getR (pc := 1) dX11_end_1 fl_11_53 (by first | rfl | assumption | exact sh_house (by omega) | exact sh_wish (by omega) | exact sh_wor (by omega) | exact sh_bar (by omega) | exact sh_term (by omega) | exact sh_sheet (by omega) | exact sh_items (by omega) | exact sh_sums (by omega)) rfl ?_
        refine wp_iload_n (pc := 4) dX11_end_4 (by first | rfl | assumption | (repeat first | assumption | rfl | refine aG_n ?_ rfl rfl)) ?_
        refine wp_cV (pc := 5) dX11_end_5 lk_11_303 rfl (by decide) rfl (by first | rfl | assumption | exact sh_house (by omega) | exact sh_wish (by omega) | exact sh_wor (by omega) | exact sh_bar (by omega) | exact sh_term (by omega) | exact sh_sheet (by omega) | exact sh_items (by omega) | exact sh_sums (by omega)) rfl rfl (c_X2_hasTerm hn hL.2.1 (fun _ => aK_i ?_) (fun q => absurd c1 q))
        refine wp_if_eq (pc := 8) (tgt := 18) dX11_end_8 rfl (fun q => absurd q (by decide)) (fun _ => ?_)
        refine wp_iload_n (pc := 11) dX11_end_11 (by first | rfl | assumption | (repeat first | assumption | rfl | refine aG_n ?_ rfl rfl)) ?_
        refine wp_cS (pc := 12) dX11_end_12 lk_11_294 rfl rfl rfl (c_X11_isHour (fun _ => aK_i ?_) (fun q => absurd c2 q))
        refine wp_if_ne (pc := 15) (tgt := 20) dX11_end_15 rfl (fun _ => ?_) (fun q => absurd q (by decide))
        refine wp_aload_n (pc := 20) dX11_end_20 (by first | rfl | assumption | (repeat first | assumption | rfl | refine aG_n ?_ rfl rfl)) ?_
        refine wp_getR (pc := 21) dX11_end_21 fl_11_53 (by first | rfl | assumption | exact sh_house (by omega) | exact sh_wish (by omega) | exact sh_wor (by omega) | exact sh_bar (by omega) | exact sh_term (by omega) | exact sh_sheet (by omega) | exact sh_items (by omega) | exact sh_sums (by omega)) rfl ?_
        refine wp_iload_n (pc := 24) dX11_end_24 (by first | rfl | assumption | (repeat first | assumption | rfl | refine aG_n ?_ rfl rfl)) ?_
        refine wp_cV (pc := 25) dX11_end_25 lk_11_312 rfl (by decide) rfl (by first | rfl | assumption | exact sh_house (by omega) | exact sh_wish (by omega) | exact sh_wor (by omega) | exact sh_bar (by omega) | exact sh_term (by omega) | exact sh_sheet (by omega) | exact sh_items (by omega) | exact sh_sums (by omega)) rfl rfl ?_
        refine wp_aload_n (pc := 0) dX2_isBar_0 (by first | rfl | assumption | (repeat first | assumption | rfl | refine aG_n ?_ rfl rfl)) ?_
        refine wp_getR (pc := 1) dX2_isBar_1 fl_2_13 (by first | rfl | assumption | exact sh_house (by omega) | exact sh_wish (by omega) | exact sh_wor (by omega) | exact sh_bar (by omega) | exact sh_term (by omega) | exact sh_sheet (by omega) | exact sh_items (by omega) | exact sh_sums (by omega)) rfl ?_
        refine wp_iload_n (pc := 4) dX2_isBar_4 (by first | rfl | assumption | (repeat first | assumption | rfl | refine aG_n ?_ rfl rfl)) ?_
        refine wp_aald (pc := 5) dX2_isBar_5 (by first | rfl | assumption | exact sh_house (by omega) | exact sh_wish (by omega) | exact sh_wor (by omega) | exact sh_bar (by omega) | exact sh_term (by omega) | exact sh_sheet (by omega) | exact sh_items (by omega) | exact sh_sums (by omega)) (vp_in_nI (by omega) (by decide)) (by decide) (el_term (by omega)) ?_
        refine wp_getI (pc := 6) dX2_isBar_6 fl_2_32 (by first | rfl | assumption | exact sh_house (by omega) | exact sh_wish (by omega) | exact sh_wor (by omega) | exact sh_bar (by omega) | exact sh_term (by omega) | exact sh_sheet (by omega) | exact sh_items (by omega) | exact sh_sums (by omega)) rfl ?_
        refine wp_iconst (pc := 9) (v := 3) dX2_isBar_9 (by decide) ?_
        refine wp_icmp_ne (pc := 10) (tgt := 17) dX2_isBar_10 rfl (fun q => absurd (f0.trans c3) q) (fun _ => ?_)
        refine wp_iconst (pc := 13) (v := 1) dX2_isBar_13 (by decide) ?_
        refine wp_goto (pc := 14) (tgt := 18) dX2_isBar_14 rfl ?_
        refine wp_iretK (pc := 18) dX2_isBar_18 rfl (by first | rfl | decide | assumption) ?_
        refine wp_if_eq (pc := 28) (tgt := 34) dX11_end_28 rfl (fun q => absurd q (by decide)) (fun _ => ?_)
        refine wp_bipush (pc := 31) (v := -12) dX11_end_31 (by decide) ?_
        refine wp_ireturn (pc := 33) dX11_end_33 rfl (by first | rfl | decide | assumption) ?_
        refine k _ _ (fun Q' k' => ?_)
        refine wp_aload_n (pc := 0) dX12_end_0 (by first | rfl | assumption | (repeat first | assumption | rfl | refine aG_n ?_ rfl rfl)) ?_
        refine wp_iload_n (pc := 1) dX12_end_1 (by first | rfl | assumption | (repeat first | assumption | rfl | refine aG_n ?_ rfl rfl)) ?_
        refine wp_cV (pc := 2) dX12_end_2 lk_12_335 rfl (by decide) rfl (by first | rfl | assumption | exact sh_house (by omega) | exact sh_wish (by omega) | exact sh_wor (by omega) | exact sh_bar (by omega) | exact sh_term (by omega) | exact sh_sheet (by omega) | exact sh_items (by omega) | exact sh_sums (by omega)) rfl rfl (c_X12_isTerm hn hL.2.2.1 (fun _ => aK_i ?_) (fun q => absurd c1 q))
        refine wp_if_eq (pc := 5) (tgt := 15) dX12_end_5 rfl (fun q => absurd q (by decide)) (fun _ => ?_)
        refine wp_iload_n (pc := 8) dX12_end_8 (by first | rfl | assumption | (repeat first | assumption | rfl | refine aG_n ?_ rfl rfl)) ?_
        refine wp_cS (pc := 9) dX12_end_9 lk_12_326 rfl rfl rfl (c_X12_isHour (fun _ => aK_i ?_) (fun q => absurd c2 q))
        refine wp_if_ne (pc := 12) (tgt := 17) dX12_end_12 rfl (fun _ => ?_) (fun q => absurd q (by decide))
        refine wp_aload_n (pc := 17) dX12_end_17 (by first | rfl | assumption | (repeat first | assumption | rfl | refine aG_n ?_ rfl rfl)) ?_
        refine wp_iload_n (pc := 18) dX12_end_18 (by first | rfl | assumption | (repeat first | assumption | rfl | refine aG_n ?_ rfl rfl)) ?_
        refine wp_cV (pc := 19) dX12_end_19 lk_12_341 rfl (by decide) rfl (by first | rfl | assumption | exact sh_house (by omega) | exact sh_wish (by omega) | exact sh_wor (by omega) | exact sh_bar (by omega) | exact sh_term (by omega) | exact sh_sheet (by omega) | exact sh_items (by omega) | exact sh_sums (by omega)) rfl rfl ?_
        refine c_X12_findStates hL (fun μ2 s2 r2 e2 => aK_v ?_)
        refine wp_aload_n (pc := 22) dX12_end_22 (by first | rfl | assumption | (repeat first | assumption | rfl | refine aG_n ?_ rfl rfl)) ?_
        refine wp_getR (pc := 23) dX12_end_23 fl_12_83 (by first | rfl | assumption | exact sh_house (by omega) | exact sh_wish (by omega) | exact sh_wor (by omega) | exact sh_bar (by omega) | exact sh_term (by omega) | exact sh_sheet (by omega) | exact sh_items (by omega) | exact sh_sums (by omega)) rfl ?_
        refine wp_iload_n (pc := 26) dX12_end_26 (by first | rfl | assumption | (repeat first | assumption | rfl | refine aG_n ?_ rfl rfl)) ?_
        refine wp_iald (pc := 27) dX12_end_27 (by first | rfl | assumption | exact sh_house (by omega) | exact sh_wish (by omega) | exact sh_wor (by omega) | exact sh_bar (by omega) | exact sh_term (by omega) | exact sh_sheet (by omega) | exact sh_items (by omega) | exact sh_sums (by omega)) (vp_in_nI (by omega) (by decide)) ?_
        refine wp_iconst (pc := 28) (v := 3) dX12_end_28 (by decide) ?_
        refine wp_icmp_ne (pc := 29) (tgt := 37) dX12_end_29 rfl (fun q => absurd (by rw [ci, s2 111 (by omega)]; exact c3) q) (fun _ => ?_)
        refine wp_bipush (pc := 32) (v := -12) dX12_end_32 (by decide) ?_
        refine wp_goto (pc := 34) (tgt := 43) dX12_end_34 rfl ?_
        refine wp_ireturn (pc := 43) dX12_end_43 rfl (by first | rfl | decide | assumption) ?_
        exact k' _ (Inv_st (μ1 := μ) hI (fun _ _ => rfl) rfl s2 r2)
      · refine wp_aload_n (pc := 0) dX11_end_0 (by first | rfl | assumption | (repeat first | assumption | rfl | refine aG_n ?_ rfl rfl)) ?_
        refine wp_getR (pc := 1) dX11_end_1 fl_11_53 (by first | rfl | assumption | exact sh_house (by omega) | exact sh_wish (by omega) | exact sh_wor (by omega) | exact sh_bar (by omega) | exact sh_term (by omega) | exact sh_sheet (by omega) | exact sh_items (by omega) | exact sh_sums (by omega)) rfl ?_
        refine wp_iload_n (pc := 4) dX11_end_4 (by first | rfl | assumption | (repeat first | assumption | rfl | refine aG_n ?_ rfl rfl)) ?_
        refine wp_cV (pc := 5) dX11_end_5 lk_11_303 rfl (by decide) rfl (by first | rfl | assumption | exact sh_house (by omega) | exact sh_wish (by omega) | exact sh_wor (by omega) | exact sh_bar (by omega) | exact sh_term (by omega) | exact sh_sheet (by omega) | exact sh_items (by omega) | exact sh_sums (by omega)) rfl rfl (c_X2_hasTerm hn hL.2.1 (fun _ => aK_i ?_) (fun q => absurd c1 q))
        refine wp_if_eq (pc := 8) (tgt := 18) dX11_end_8 rfl (fun q => absurd q (by decide)) (fun _ => ?_)
        refine wp_iload_n (pc := 11) dX11_end_11 (by first | rfl | assumption | (repeat first | assumption | rfl | refine aG_n ?_ rfl rfl)) ?_
        refine wp_cS (pc := 12) dX11_end_12 lk_11_294 rfl rfl rfl (c_X11_isHour (fun _ => aK_i ?_) (fun q => absurd c2 q))
        refine wp_if_ne (pc := 15) (tgt := 20) dX11_end_15 rfl (fun _ => ?_) (fun q => absurd q (by decide))
        refine wp_aload_n (pc := 20) dX11_end_20 (by first | rfl | assumption | (repeat first | assumption | rfl | refine aG_n ?_ rfl rfl)) ?_
        refine wp_getR (pc := 21) dX11_end_21 fl_11_53 (by first | rfl | assumption | exact sh_house (by omega) | exact sh_wish (by omega) | exact sh_wor (by omega) | exact sh_bar (by omega) | exact sh_term (by omega) | exact sh_sheet (by omega) | exact sh_items (by omega) | exact sh_sums (by omega)) rfl ?_
        refine wp_iload_n (pc := 24) dX11_end_24 (by first | rfl | assumption | (repeat first | assumption | rfl | refine aG_n ?_ rfl rfl)) ?_
        refine wp_cV (pc := 25) dX11_end_25 lk_11_312 rfl (by decide) rfl (by first | rfl | assumption | exact sh_house (by omega) | exact sh_wish (by omega) | exact sh_wor (by omega) | exact sh_bar (by omega) | exact sh_term (by omega) | exact sh_sheet (by omega) | exact sh_items (by omega) | exact sh_sums (by omega)) rfl rfl ?_
        refine wp_aload_n (pc := 0) dX2_isBar_0 (by first | rfl | assumption | (repeat first | assumption | rfl | refine aG_n ?_ rfl rfl)) ?_
        refine wp_getR (pc := 1) dX2_isBar_1 fl_2_13 (by first | rfl | assumption | exact sh_house (by omega) | exact sh_wish (by omega) | exact sh_wor (by omega) | exact sh_bar (by omega) | exact sh_term (by omega) | exact sh_sheet (by omega) | exact sh_items (by omega) | exact sh_sums (by omega)) rfl ?_
        refine wp_iload_n (pc := 4) dX2_isBar_4 (by first | rfl | assumption | (repeat first | assumption | rfl | refine aG_n ?_ rfl rfl)) ?_
        refine wp_aald (pc := 5) dX2_isBar_5 (by first | rfl | assumption | exact sh_house (by omega) | exact sh_wish (by omega) | exact sh_wor (by omega) | exact sh_bar (by omega) | exact sh_term (by omega) | exact sh_sheet (by omega) | exact sh_items (by omega) | exact sh_sums (by omega)) (vp_in_nI (by omega) (by decide)) (by decide) (el_term (by omega)) ?_
        refine wp_getI (pc := 6) dX2_isBar_6 fl_2_32 (by first | rfl | assumption | exact sh_house (by omega) | exact sh_wish (by omega) | exact sh_wor (by omega) | exact sh_bar (by omega) | exact sh_term (by omega) | exact sh_sheet (by omega) | exact sh_items (by omega) | exact sh_sums (by omega)) rfl ?_
        refine wp_iconst (pc := 9) (v := 3) dX2_isBar_9 (by decide) ?_
        refine wp_icmp_ne (pc := 10) (tgt := 17) dX2_isBar_10 rfl (fun _ => ?_) (fun q => absurd q (by rw [f0]; exact c3))
        refine wp_iconst (pc := 17) (v := 0) dX2_isBar_17 (by decide) ?_
        refine wp_iretK (pc := 18) dX2_isBar_18 rfl (by first | rfl | decide | assumption) ?_
        refine wp_if_eq (pc := 28) (tgt := 34) dX11_end_28 rfl (fun _ => ?_) (fun q => absurd q (by decide))
        refine wp_aload_n (pc := 34) dX11_end_34 (by first | rfl | assumption | (repeat first | assumption | rfl | refine aG_n ?_ rfl rfl)) ?_
        refine wp_getR (pc := 35) dX11_end_35 fl_11_53 (by first | rfl | assumption | exact sh_house (by omega) | exact sh_wish (by omega) | exact sh_wor (by omega) | exact sh_bar (by omega) | exact sh_term (by omega) | exact sh_sheet (by omega) | exact sh_items (by omega) | exact sh_sums (by omega)) rfl ?_
        refine wp_iload_n (pc := 38) dX11_end_38 (by first | rfl | assumption | (repeat first | assumption | rfl | refine aG_n ?_ rfl rfl)) ?_
        refine wp_cV (pc := 39) dX11_end_39 lk_11_334 rfl (by decide) rfl (by first | rfl | assumption | exact sh_house (by omega) | exact sh_wish (by omega) | exact sh_wor (by omega) | exact sh_bar (by omega) | exact sh_term (by omega) | exact sh_sheet (by omega) | exact sh_items (by omega) | exact sh_sums (by omega)) rfl rfl ?_
        refine c_X2_settle hL (fun μ1 s1 r1 e1 => aK_v ?_)
        have hL1 : LT μ1.1 n := LT_c hL (fun c hc => s1 c (by omega))
        refine wp_aload_n (pc := 42) dX11_end_42 (by first | rfl | assumption | (repeat first | assumption | rfl | refine aG_n ?_ rfl rfl)) ?_
        refine wp_getR (pc := 43) dX11_end_43 fl_11_53 (by first | rfl | assumption | exact sh_house (by omega) | exact sh_wish (by omega) | exact sh_wor (by omega) | exact sh_bar (by omega) | exact sh_term (by omega) | exact sh_sheet (by omega) | exact sh_items (by omega) | exact sh_sums (by omega)) rfl ?_
        refine wp_getR (pc := 46) dX11_end_46 fl_11_340 (by first | rfl | assumption | exact sh_house (by omega) | exact sh_wish (by omega) | exact sh_wor (by omega) | exact sh_bar (by omega) | exact sh_term (by omega) | exact sh_sheet (by omega) | exact sh_items (by omega) | exact sh_sums (by omega)) rfl ?_
        refine wp_iload_n (pc := 49) dX11_end_49 (by first | rfl | assumption | (repeat first | assumption | rfl | refine aG_n ?_ rfl rfl)) ?_
        refine wp_iald (pc := 50) dX11_end_50 (by first | rfl | assumption | exact sh_house (by omega) | exact sh_wish (by omega) | exact sh_wor (by omega) | exact sh_bar (by omega) | exact sh_term (by omega) | exact sh_sheet (by omega) | exact sh_items (by omega) | exact sh_sums (by omega)) (vp_in_nI (by omega) (by decide)) ?_
        refine wp_ireturn (pc := 51) dX11_end_51 rfl (by first | rfl | decide | assumption) ?_
        refine k _ _ (fun Q' k' => ?_)
        refine wp_aload_n (pc := 0) dX12_end_0 (by first | rfl | assumption | (repeat first | assumption | rfl | refine aG_n ?_ rfl rfl)) ?_
        refine wp_iload_n (pc := 1) dX12_end_1 (by first | rfl | assumption | (repeat first | assumption | rfl | refine aG_n ?_ rfl rfl)) ?_
        refine wp_cV (pc := 2) dX12_end_2 lk_12_335 rfl (by decide) rfl (by first | rfl | assumption | exact sh_house (by omega) | exact sh_wish (by omega) | exact sh_wor (by omega) | exact sh_bar (by omega) | exact sh_term (by omega) | exact sh_sheet (by omega) | exact sh_items (by omega) | exact sh_sums (by omega)) rfl rfl (c_X12_isTerm hn hL1.2.2.1 (fun _ => aK_i ?_) (fun q => absurd c1 q))
        refine wp_if_eq (pc := 5) (tgt := 15) dX12_end_5 rfl (fun q => absurd q (by decide)) (fun _ => ?_)
        refine wp_iload_n (pc := 8) dX12_end_8 (by first | rfl | assumption | (repeat first | assumption | rfl | refine aG_n ?_ rfl rfl)) ?_
        refine wp_cS (pc := 9) dX12_end_9 lk_12_326 rfl rfl rfl (c_X12_isHour (fun _ => aK_i ?_) (fun q => absurd c2 q))
        refine wp_if_ne (pc := 12) (tgt := 17) dX12_end_12 rfl (fun _ => ?_) (fun q => absurd q (by decide))
        refine wp_aload_n (pc := 17) dX12_end_17 (by first | rfl | assumption | (repeat first | assumption | rfl | refine aG_n ?_ rfl rfl)) ?_
        refine wp_iload_n (pc := 18) dX12_end_18 (by first | rfl | assumption | (repeat first | assumption | rfl | refine aG_n ?_ rfl rfl)) ?_
        refine wp_cV (pc := 19) dX12_end_19 lk_12_341 rfl (by decide) rfl (by first | rfl | assumption | exact sh_house (by omega) | exact sh_wish (by omega) | exact sh_wor (by omega) | exact sh_bar (by omega) | exact sh_term (by omega) | exact sh_sheet (by omega) | exact sh_items (by omega) | exact sh_sums (by omega)) rfl rfl ?_
        refine c_X12_findStates hL1 (fun μ2 s2 r2 e2 => aK_v ?_)
        refine wp_aload_n (pc := 22) dX12_end_22 (by first | rfl | assumption | (repeat first | assumption | rfl | refine aG_n ?_ rfl rfl)) ?_
        refine wp_getR (pc := 23) dX12_end_23 fl_12_83 (by first | rfl | assumption | exact sh_house (by omega) | exact sh_wish (by omega) | exact sh_wor (by omega) | exact sh_bar (by omega) | exact sh_term (by omega) | exact sh_sheet (by omega) | exact sh_items (by omega) | exact sh_sums (by omega)) rfl ?_
        refine wp_iload_n (pc := 26) dX12_end_26 (by first | rfl | assumption | (repeat first | assumption | rfl | refine aG_n ?_ rfl rfl)) ?_
        refine wp_iald (pc := 27) dX12_end_27 (by first | rfl | assumption | exact sh_house (by omega) | exact sh_wish (by omega) | exact sh_wor (by omega) | exact sh_bar (by omega) | exact sh_term (by omega) | exact sh_sheet (by omega) | exact sh_items (by omega) | exact sh_sums (by omega)) (vp_in_nI (by omega) (by decide)) ?_
        refine wp_iconst (pc := 28) (v := 3) dX12_end_28 (by decide) ?_
        refine wp_icmp_ne (pc := 29) (tgt := 37) dX12_end_29 rfl (fun _ => ?_) (fun q => absurd q (by rw [ci, s2 111 (by omega), s1 111 (by omega)]; exact c3))
        refine wp_aload_n (pc := 37) dX12_end_37 (by first | rfl | assumption | (repeat first | assumption | rfl | refine aG_n ?_ rfl rfl)) ?_
        refine wp_getR (pc := 38) dX12_end_38 fl_12_110 (by first | rfl | assumption | exact sh_house (by omega) | exact sh_wish (by omega) | exact sh_wor (by omega) | exact sh_bar (by omega) | exact sh_term (by omega) | exact sh_sheet (by omega) | exact sh_items (by omega) | exact sh_sums (by omega)) rfl ?_
        refine wp_iload_n (pc := 41) dX12_end_41 (by first | rfl | assumption | (repeat first | assumption | rfl | refine aG_n ?_ rfl rfl)) ?_
        refine wp_iald (pc := 42) dX12_end_42 (by first | rfl | assumption | exact sh_house (by omega) | exact sh_wish (by omega) | exact sh_wor (by omega) | exact sh_bar (by omega) | exact sh_term (by omega) | exact sh_sheet (by omega) | exact sh_items (by omega) | exact sh_sums (by omega)) (vp_in_nI (by omega) (by decide)) ?_
        refine wp_ireturn (pc := 43) dX12_end_43 rfl (by first | rfl | decide | assumption) ?_
        refine qEq ?_ (k' _ (Inv_st hI s1 r1 s2 r2))
        have hm : ∀ c, 111 ≤ c → c ≤ 119 → μ1.1 c = μ.1 c := fun c _ _ => s1 c (by omega)
        have eu := eO_u (h := h) (E := μ1.1 33) (E' := μ2.1 120) hL (fun i hi => e1 i hi) (fun i hi => by rw [← eO_m hm]; exact (e2 i hi).1) i hi
        rw [ci, eu]
    · refine wp_aload_n (pc := 0) dX11_end_0 (by first | rfl | assumption | (repeat first | assumption | rfl | refine aG_n ?_ rfl rfl)) ?_
      refine wp_getR (pc := 1) dX11_end_1 fl_11_53 (by first | rfl | assumption | exact sh_house (by omega) | exact sh_wish (by omega) | exact sh_wor (by omega) | exact sh_bar (by omega) | exact sh_term (by omega) | exact sh_sheet (by omega) | exact sh_items (by omega) | exact sh_sums (by omega)) rfl ?_
      refine wp_iload_n (pc := 4) dX11_end_4 (by first | rfl | assumption | (repeat first | assumption | rfl | refine aG_n ?_ rfl rfl)) ?_
      refine wp_cV (pc := 5) dX11_end_5 lk_11_303 rfl (by decide) rfl (by first | rfl | assumption | exact sh_house (by omega) | exact sh_wish (by omega) | exact sh_wor (by omega) | exact sh_bar (by omega) | exact sh_term (by omega) | exact sh_sheet (by omega) | exact sh_items (by omega) | exact sh_sums (by omega)) rfl rfl (c_X2_hasTerm hn hL.2.1 (fun _ => aK_i ?_) (fun q => absurd c1 q))
      refine wp_if_eq (pc := 8) (tgt := 18) dX11_end_8 rfl (fun q => absurd q (by decide)) (fun _ => ?_)
      refine wp_iload_n (pc := 11) dX11_end_11 (by first | rfl | assumption | (repeat first | assumption | rfl | refine aG_n ?_ rfl rfl)) ?_
      refine wp_cS (pc := 12) dX11_end_12 lk_11_294 rfl rfl rfl (c_X11_isHour (fun q => absurd q c2) (fun _ => aK_i ?_))
      refine wp_if_ne (pc := 15) (tgt := 20) dX11_end_15 rfl (fun q => absurd q (by decide)) (fun _ => ?_)
      refine wp_iconst (pc := 18) (v := -1) dX11_end_18 (by decide) ?_
      refine wp_ireturn (pc := 19) dX11_end_19 rfl (by first | rfl | decide | assumption) ?_
      refine k _ _ (fun Q' k' => ?_)
      refine wp_aload_n (pc := 0) dX12_end_0 (by first | rfl | assumption | (repeat first | assumption | rfl | refine aG_n ?_ rfl rfl)) ?_
      refine wp_iload_n (pc := 1) dX12_end_1 (by first | rfl | assumption | (repeat first | assumption | rfl | refine aG_n ?_ rfl rfl)) ?_
      refine wp_cV (pc := 2) dX12_end_2 lk_12_335 rfl (by decide) rfl (by first | rfl | assumption | exact sh_house (by omega) | exact sh_wish (by omega) | exact sh_wor (by omega) | exact sh_bar (by omega) | exact sh_term (by omega) | exact sh_sheet (by omega) | exact sh_items (by omega) | exact sh_sums (by omega)) rfl rfl (c_X12_isTerm hn hL.2.2.1 (fun _ => aK_i ?_) (fun q => absurd c1 q))
      refine wp_if_eq (pc := 5) (tgt := 15) dX12_end_5 rfl (fun q => absurd q (by decide)) (fun _ => ?_)
      refine wp_iload_n (pc := 8) dX12_end_8 (by first | rfl | assumption | (repeat first | assumption | rfl | refine aG_n ?_ rfl rfl)) ?_
      refine wp_cS (pc := 9) dX12_end_9 lk_12_326 rfl rfl rfl (c_X12_isHour (fun q => absurd q c2) (fun _ => aK_i ?_))
      refine wp_if_ne (pc := 12) (tgt := 17) dX12_end_12 rfl (fun q => absurd q (by decide)) (fun _ => ?_)
      refine wp_iconst (pc := 15) (v := -1) dX12_end_15 (by decide) ?_
      refine wp_ireturn (pc := 16) dX12_end_16 rfl (by first | rfl | decide | assumption) ?_
      exact k' _ hI
  · refine wp_aload_n (pc := 0) dX11_end_0 (by first | rfl | assumption | (repeat first | assumption | rfl | refine aG_n ?_ rfl rfl)) ?_
    refine wp_getR (pc := 1) dX11_end_1 fl_11_53 (by first | rfl | assumption | exact sh_house (by omega) | exact sh_wish (by omega) | exact sh_wor (by omega) | exact sh_bar (by omega) | exact sh_term (by omega) | exact sh_sheet (by omega) | exact sh_items (by omega) | exact sh_sums (by omega)) rfl ?_
    refine wp_iload_n (pc := 4) dX11_end_4 (by first | rfl | assumption | (repeat first | assumption | rfl | refine aG_n ?_ rfl rfl)) ?_
    refine wp_cV (pc := 5) dX11_end_5 lk_11_303 rfl (by decide) rfl (by first | rfl | assumption | exact sh_house (by omega) | exact sh_wish (by omega) | exact sh_wor (by omega) | exact sh_bar (by omega) | exact sh_term (by omega) | exact sh_sheet (by omega) | exact sh_items (by omega) | exact sh_sums (by omega)) rfl rfl (c_X2_hasTerm hn hL.2.1 (fun q => absurd q c1) (fun _ => aK_i ?_))
    refine wp_if_eq (pc := 8) (tgt := 18) dX11_end_8 rfl (fun _ => ?_) (fun q => absurd q (by decide))
    refine wp_iconst (pc := 18) (v := -1) dX11_end_18 (by decide) ?_
    refine wp_ireturn (pc := 19) dX11_end_19 rfl (by first | rfl | decide | assumption) ?_
    refine k _ _ (fun Q' k' => ?_)
    refine wp_aload_n (pc := 0) dX12_end_0 (by first | rfl | assumption | (repeat first | assumption | rfl | refine aG_n ?_ rfl rfl)) ?_
    refine wp_iload_n (pc := 1) dX12_end_1 (by first | rfl | assumption | (repeat first | assumption | rfl | refine aG_n ?_ rfl rfl)) ?_
    refine wp_cV (pc := 2) dX12_end_2 lk_12_335 rfl (by decide) rfl (by first | rfl | assumption | exact sh_house (by omega) | exact sh_wish (by omega) | exact sh_wor (by omega) | exact sh_bar (by omega) | exact sh_term (by omega) | exact sh_sheet (by omega) | exact sh_items (by omega) | exact sh_sums (by omega)) rfl rfl (c_X12_isTerm hn hL.2.2.1 (fun q => absurd q c1) (fun _ => aK_i ?_))
    refine wp_if_eq (pc := 5) (tgt := 15) dX12_end_5 rfl (fun _ => ?_) (fun q => absurd q (by decide))
    refine wp_iconst (pc := 15) (v := -1) dX12_end_15 (by decide) ?_
    refine wp_ireturn (pc := 16) dX12_end_16 rfl (by first | rfl | decide | assumption) ?_
    exact k' _ hI
/-! owes -/
abbrev oP (M : MM) (h : Int32) (E : Nat → Int32) (hs : Int32) (i : Nat) : Prop := M 112 i = hs ∧ ¬ M 111 i = 3 ∧ (stV M h (E i) i = 2 ∨ stV M h (E i) i = 4)
def oF (M : MM) (h : Int32) (E : Nat → Int32) (hs : Int32) : Nat → Int32
  | 0 => 0
  | i + 1 => oF M h E hs i + (if oP M h E hs i then M 114 i else 0)
theorem oF_c {M M' : MM} {h hs : Int32} {E E' : Nat → Int32} (hc : ∀ c, 111 ≤ c → c ≤ 119 → M' c = M c) : ∀ n, (∀ i, i < n → E' i = E i) → oF M' h E' hs n = oF M h E hs n
  | 0, _ => rfl
  | n + 1, he => by
    unfold oF
    rw [oF_c hc n (fun i hi => he i (by omega))]
    have hst := fun e => (st_m (i := n) (h := h) (e := e) hc).1
    simp only [oP, hst, he n (by omega), hc 111 (by omega) (by omega), hc 112 (by omega) (by omega), hc 114 (by omega) (by omega)]
section OWES
variable {X : aX} {μ : Mm} {Q : Option Value → Mm → Prop} {n : Nat} {h hs : Int32} {E : Nat → Int32}
theorem l_owed (hL : LT μ.1 n) (k : Q (some (.int (oF μ.1 h (μ.1 33) hs n))) μ) : ∀ (f i : Nat), i + f = n → ∀ L : aL, aL_get L 0 = some (.ref 31) → aL_get L 1 = some (.int hs) → aL_get L 2 = some (.int h) → aL_get L 3 = some (.int (oF μ.1 h (μ.1 33) hs i)) → aL_get L 4 = some (.int (nI i)) → WP X mX2_owedBy 5 L [] μ Q
  | 0, i, hi, L, g0, g1, g2, g3, g4 => by
    obtain rfl : i = n := by omega
    have hn := hL.1
    refine wp_iload (pc := 5) dX2_owedBy_5 (by first | rfl | assumption | (repeat first | assumption | rfl | refine aG_n ?_ rfl rfl)) ?_
    refine wp_aload_n (pc := 7) dX2_owedBy_7 (by first | rfl | assumption | (repeat first | assumption | rfl | refine aG_n ?_ rfl rfl)) ?_
    refine wp_getI (pc := 8) dX2_owedBy_8 fl_2_28 (by first | rfl | assumption | exact sh_house (by omega) | exact sh_wish (by omega) | exact sh_wor (by omega) | exact sh_bar (by omega) | exact sh_term (by omega) | exact sh_sheet (by omega) | exact sh_items (by omega) | exact sh_sums (by omega)) rfl ?_
    refine wp_icmp_ge (pc := 11) (tgt := 84) dX2_owedBy_11 rfl (fun _ => ?_) (fun q => absurd (by rw [hL.2.1]; exact nI_le (by omega) (by omega)) q)
    refine wp_iload_n (pc := 84) dX2_owedBy_84 (by first | rfl | assumption | (repeat first | assumption | rfl | refine aG_n ?_ rfl rfl)) ?_
    refine wp_ireturn (pc := 85) dX2_owedBy_85 rfl (by first | rfl | decide | assumption) ?_
    exact k
  | f + 1, i, hi, L, g0, g1, g2, g3, g4 => by
    have hn := hL.1
    have hin : i < n := by omega
    obtain ⟨⟨f0, f1, f3, -⟩, -⟩ := hL.2.2.2.1 i hin
    have e : oF μ.1 h (μ.1 33) hs i + (if oP μ.1 h (μ.1 33) hs i then μ.1 114 i else 0) = oF μ.1 h (μ.1 33) hs (i + 1) := rfl
    by_cases c : oP μ.1 h (μ.1 33) hs i
    · rw [if_pos c] at e
      obtain ⟨p1, p2, p3⟩ := id c
      by_cases s2 : stV μ.1 h (μ.1 33 i) i = 2
      · refine wp_iload (pc := 5) dX2_owedBy_5 (by first | rfl | assumption | (repeat first | assumption | rfl | refine aG_n ?_ rfl rfl)) ?_
        refine wp_aload_n (pc := 7) dX2_owedBy_7 (by first | rfl | assumption | (repeat first | assumption | rfl | refine aG_n ?_ rfl rfl)) ?_
        refine wp_getI (pc := 8) dX2_owedBy_8 fl_2_28 (by first | rfl | assumption | exact sh_house (by omega) | exact sh_wish (by omega) | exact sh_wor (by omega) | exact sh_bar (by omega) | exact sh_term (by omega) | exact sh_sheet (by omega) | exact sh_items (by omega) | exact sh_sums (by omega)) rfl ?_
        refine wp_icmp_ge (pc := 11) (tgt := 84) dX2_owedBy_11 rfl (fun q => absurd q (by rw [hL.2.1]; exact nI_ge (by omega) (by omega))) (fun _ => ?_)
        refine wp_iload (pc := 14) dX2_owedBy_14 (by first | rfl | assumption | (repeat first | assumption | rfl | refine aG_n ?_ rfl rfl)) ?_
        refine wp_bipush (pc := 16) (v := 16) dX2_owedBy_16 (by decide) ?_
        refine wp_icmp_ge (pc := 18) (tgt := 84) dX2_owedBy_18 rfl (fun q => absurd q (nI_ge (b := 16) (by omega) (by omega))) (fun _ => ?_)
        refine wp_aload_n (pc := 21) dX2_owedBy_21 (by first | rfl | assumption | (repeat first | assumption | rfl | refine aG_n ?_ rfl rfl)) ?_
        refine wp_iload (pc := 22) dX2_owedBy_22 (by first | rfl | assumption | (repeat first | assumption | rfl | refine aG_n ?_ rfl rfl)) ?_
        refine wp_iload_n (pc := 24) dX2_owedBy_24 (by first | rfl | assumption | (repeat first | assumption | rfl | refine aG_n ?_ rfl rfl)) ?_
        refine wp_cV (pc := 25) dX2_owedBy_25 lk_2_72 rfl (by decide) rfl (by first | rfl | assumption | exact sh_house (by omega) | exact sh_wish (by omega) | exact sh_wor (by omega) | exact sh_bar (by omega) | exact sh_term (by omega) | exact sh_sheet (by omega) | exact sh_items (by omega) | exact sh_sums (by omega)) rfl rfl (c_X2_stateOf hL hin (aK_i ?_))
        refine wp_istore (pc := 28) dX2_owedBy_28 (by decide) ?_
        refine wp_aload_n (pc := 30) dX2_owedBy_30 (by first | rfl | assumption | (repeat first | assumption | rfl | refine aG_n ?_ rfl rfl)) ?_
        refine wp_getR (pc := 31) dX2_owedBy_31 fl_2_13 (by first | rfl | assumption | exact sh_house (by omega) | exact sh_wish (by omega) | exact sh_wor (by omega) | exact sh_bar (by omega) | exact sh_term (by omega) | exact sh_sheet (by omega) | exact sh_items (by omega) | exact sh_sums (by omega)) rfl ?_
        refine wp_iload (pc := 34) dX2_owedBy_34 (by first | rfl | assumption | (repeat first | assumption | rfl | refine aG_n ?_ rfl rfl)) ?_
        refine wp_aald (pc := 36) dX2_owedBy_36 (by first | rfl | assumption | exact sh_house (by omega) | exact sh_wish (by omega) | exact sh_wor (by omega) | exact sh_bar (by omega) | exact sh_term (by omega) | exact sh_sheet (by omega) | exact sh_items (by omega) | exact sh_sums (by omega)) (vp_in_nI (by omega) (by decide)) (by decide) (el_term (by omega)) ?_
        refine wp_getI (pc := 37) dX2_owedBy_37 fl_2_35 (by first | rfl | assumption | exact sh_house (by omega) | exact sh_wish (by omega) | exact sh_wor (by omega) | exact sh_bar (by omega) | exact sh_term (by omega) | exact sh_sheet (by omega) | exact sh_items (by omega) | exact sh_sums (by omega)) rfl ?_
        refine wp_iload_n (pc := 40) dX2_owedBy_40 (by first | rfl | assumption | (repeat first | assumption | rfl | refine aG_n ?_ rfl rfl)) ?_
        refine wp_icmp_ne (pc := 41) (tgt := 78) dX2_owedBy_41 rfl (fun q => absurd (f1.trans p1) q) (fun _ => ?_)
        refine wp_aload_n (pc := 44) dX2_owedBy_44 (by first | rfl | assumption | (repeat first | assumption | rfl | refine aG_n ?_ rfl rfl)) ?_
        refine wp_iload (pc := 45) dX2_owedBy_45 (by first | rfl | assumption | (repeat first | assumption | rfl | refine aG_n ?_ rfl rfl)) ?_
        refine wp_cV (pc := 47) dX2_owedBy_47 lk_2_75 rfl (by decide) rfl (by first | rfl | assumption | exact sh_house (by omega) | exact sh_wish (by omega) | exact sh_wor (by omega) | exact sh_bar (by omega) | exact sh_term (by omega) | exact sh_sheet (by omega) | exact sh_items (by omega) | exact sh_sums (by omega)) rfl rfl ?_
        refine wp_aload_n (pc := 0) dX2_isBar_0 (by first | rfl | assumption | (repeat first | assumption | rfl | refine aG_n ?_ rfl rfl)) ?_
        refine wp_getR (pc := 1) dX2_isBar_1 fl_2_13 (by first | rfl | assumption | exact sh_house (by omega) | exact sh_wish (by omega) | exact sh_wor (by omega) | exact sh_bar (by omega) | exact sh_term (by omega) | exact sh_sheet (by omega) | exact sh_items (by omega) | exact sh_sums (by omega)) rfl ?_
        refine wp_iload_n (pc := 4) dX2_isBar_4 (by first | rfl | assumption | (repeat first | assumption | rfl | refine aG_n ?_ rfl rfl)) ?_
        refine wp_aald (pc := 5) dX2_isBar_5 (by first | rfl | assumption | exact sh_house (by omega) | exact sh_wish (by omega) | exact sh_wor (by omega) | exact sh_bar (by omega) | exact sh_term (by omega) | exact sh_sheet (by omega) | exact sh_items (by omega) | exact sh_sums (by omega)) (vp_in_nI (by omega) (by decide)) (by decide) (el_term (by omega)) ?_
        refine wp_getI (pc := 6) dX2_isBar_6 fl_2_32 (by first | rfl | assumption | exact sh_house (by omega) | exact sh_wish (by omega) | exact sh_wor (by omega) | exact sh_bar (by omega) | exact sh_term (by omega) | exact sh_sheet (by omega) | exact sh_items (by omega) | exact sh_sums (by omega)) rfl ?_
        refine wp_iconst (pc := 9) (v := 3) dX2_isBar_9 (by decide) ?_
        refine wp_icmp_ne (pc := 10) (tgt := 17) dX2_isBar_10 rfl (fun _ => ?_) (fun q => absurd q (by rw [f0]; exact p2))
        refine wp_iconst (pc := 17) (v := 0) dX2_isBar_17 (by decide) ?_
        refine wp_iretK (pc := 18) dX2_isBar_18 rfl (by first | rfl | decide | assumption) ?_
        refine wp_if_ne (pc := 50) (tgt := 78) dX2_owedBy_50 rfl (fun q => absurd q (by decide)) (fun _ => ?_)
        refine wp_iload (pc := 53) dX2_owedBy_53 (by first | rfl | assumption | (repeat first | assumption | rfl | refine aG_n ?_ rfl rfl)) ?_
        refine wp_iconst (pc := 55) (v := 2) dX2_owedBy_55 (by decide) ?_
        refine wp_icmp_eq (pc := 56) (tgt := 65) dX2_owedBy_56 rfl (fun _ => ?_) (fun q => absurd s2 q)
        refine wp_iload_n (pc := 65) dX2_owedBy_65 (by first | rfl | assumption | (repeat first | assumption | rfl | refine aG_n ?_ rfl rfl)) ?_
        refine wp_aload_n (pc := 66) dX2_owedBy_66 (by first | rfl | assumption | (repeat first | assumption | rfl | refine aG_n ?_ rfl rfl)) ?_
        refine wp_getR (pc := 67) dX2_owedBy_67 fl_2_13 (by first | rfl | assumption | exact sh_house (by omega) | exact sh_wish (by omega) | exact sh_wor (by omega) | exact sh_bar (by omega) | exact sh_term (by omega) | exact sh_sheet (by omega) | exact sh_items (by omega) | exact sh_sums (by omega)) rfl ?_
        refine wp_iload (pc := 70) dX2_owedBy_70 (by first | rfl | assumption | (repeat first | assumption | rfl | refine aG_n ?_ rfl rfl)) ?_
        refine wp_aald (pc := 72) dX2_owedBy_72 (by first | rfl | assumption | exact sh_house (by omega) | exact sh_wish (by omega) | exact sh_wor (by omega) | exact sh_bar (by omega) | exact sh_term (by omega) | exact sh_sheet (by omega) | exact sh_items (by omega) | exact sh_sums (by omega)) (vp_in_nI (by omega) (by decide)) (by decide) (el_term (by omega)) ?_
        refine wp_getI (pc := 73) dX2_owedBy_73 fl_2_41 (by first | rfl | assumption | exact sh_house (by omega) | exact sh_wish (by omega) | exact sh_wor (by omega) | exact sh_bar (by omega) | exact sh_term (by omega) | exact sh_sheet (by omega) | exact sh_items (by omega) | exact sh_sums (by omega)) rfl ?_
        refine wp_iadd (pc := 76) dX2_owedBy_76 ?_
        refine wp_istore_n (pc := 77) dX2_owedBy_77 (by decide) ?_
        refine wp_iinc (pc := 78) dX2_owedBy_78 (by decide) (by first | rfl | assumption | (repeat first | assumption | rfl | refine aG_n ?_ rfl rfl)) rfl ?_
        refine wp_goto (pc := 81) (tgt := 5) dX2_owedBy_81 rfl ?_
        exact l_owed hL k f (i + 1) (by omega) _ (by first | rfl | assumption | (repeat first | assumption | rfl | refine aG_n ?_ rfl rfl)) (by first | rfl | assumption | (repeat first | assumption | rfl | refine aG_n ?_ rfl rfl)) (by first | rfl | assumption | (repeat first | assumption | rfl | refine aG_n ?_ rfl rfl)) (by rw [← e, ← f3]; first | rfl | assumption | (repeat first | assumption | rfl | refine aG_n ?_ rfl rfl)) (by rw [← nI_i1]; first | rfl | assumption | (repeat first | assumption | rfl | refine aG_n ?_ rfl rfl))
      · have s4 := p3.resolve_left s2
        refine wp_iload (pc := 5) dX2_owedBy_5 (by first | rfl | assumption | (repeat first | assumption | rfl | refine aG_n ?_ rfl rfl)) ?_
        refine wp_aload_n (pc := 7) dX2_owedBy_7 (by first | rfl | assumption | (repeat first | assumption | rfl | refine aG_n ?_ rfl rfl)) ?_
        refine wp_getI (pc := 8) dX2_owedBy_8 fl_2_28 (by first | rfl | assumption | exact sh_house (by omega) | exact sh_wish (by omega) | exact sh_wor (by omega) | exact sh_bar (by omega) | exact sh_term (by omega) | exact sh_sheet (by omega) | exact sh_items (by omega) | exact sh_sums (by omega)) rfl ?_
        refine wp_icmp_ge (pc := 11) (tgt := 84) dX2_owedBy_11 rfl (fun q => absurd q (by rw [hL.2.1]; exact nI_ge (by omega) (by omega))) (fun _ => ?_)
        refine wp_iload (pc := 14) dX2_owedBy_14 (by first | rfl | assumption | (repeat first | assumption | rfl | refine aG_n ?_ rfl rfl)) ?_
        refine wp_bipush (pc := 16) (v := 16) dX2_owedBy_16 (by decide) ?_
        refine wp_icmp_ge (pc := 18) (tgt := 84) dX2_owedBy_18 rfl (fun q => absurd q (nI_ge (b := 16) (by omega) (by omega))) (fun _ => ?_)
        refine wp_aload_n (pc := 21) dX2_owedBy_21 (by first | rfl | assumption | (repeat first | assumption | rfl | refine aG_n ?_ rfl rfl)) ?_
        refine wp_iload (pc := 22) dX2_owedBy_22 (by first | rfl | assumption | (repeat first | assumption | rfl | refine aG_n ?_ rfl rfl)) ?_
        refine wp_iload_n (pc := 24) dX2_owedBy_24 (by first | rfl | assumption | (repeat first | assumption | rfl | refine aG_n ?_ rfl rfl)) ?_
        refine wp_cV (pc := 25) dX2_owedBy_25 lk_2_72 rfl (by decide) rfl (by first | rfl | assumption | exact sh_house (by omega) | exact sh_wish (by omega) | exact sh_wor (by omega) | exact sh_bar (by omega) | exact sh_term (by omega) | exact sh_sheet (by omega) | exact sh_items (by omega) | exact sh_sums (by omega)) rfl rfl (c_X2_stateOf hL hin (aK_i ?_))
        refine wp_istore (pc := 28) dX2_owedBy_28 (by decide) ?_
        refine wp_aload_n (pc := 30) dX2_owedBy_30 (by first | rfl | assumption | (repeat first | assumption | rfl | refine aG_n ?_ rfl rfl)) ?_
        refine wp_getR (pc := 31) dX2_owedBy_31 fl_2_13 (by first | rfl | assumption | exact sh_house (by omega) | exact sh_wish (by omega) | exact sh_wor (by omega) | exact sh_bar (by omega) | exact sh_term (by omega) | exact sh_sheet (by omega) | exact sh_items (by omega) | exact sh_sums (by omega)) rfl ?_
        refine wp_iload (pc := 34) dX2_owedBy_34 (by first | rfl | assumption | (repeat first | assumption | rfl | refine aG_n ?_ rfl rfl)) ?_
        refine wp_aald (pc := 36) dX2_owedBy_36 (by first | rfl | assumption | exact sh_house (by omega) | exact sh_wish (by omega) | exact sh_wor (by omega) | exact sh_bar (by omega) | exact sh_term (by omega) | exact sh_sheet (by omega) | exact sh_items (by omega) | exact sh_sums (by omega)) (vp_in_nI (by omega) (by decide)) (by decide) (el_term (by omega)) ?_
        refine wp_getI (pc := 37) dX2_owedBy_37 fl_2_35 (by first | rfl | assumption | exact sh_house (by omega) | exact sh_wish (by omega) | exact sh_wor (by omega) | exact sh_bar (by omega) | exact sh_term (by omega) | exact sh_sheet (by omega) | exact sh_items (by omega) | exact sh_sums (by omega)) rfl ?_
        refine wp_iload_n (pc := 40) dX2_owedBy_40 (by first | rfl | assumption | (repeat first | assumption | rfl | refine aG_n ?_ rfl rfl)) ?_
        refine wp_icmp_ne (pc := 41) (tgt := 78) dX2_owedBy_41 rfl (fun q => absurd (f1.trans p1) q) (fun _ => ?_)
        refine wp_aload_n (pc := 44) dX2_owedBy_44 (by first | rfl | assumption | (repeat first | assumption | rfl | refine aG_n ?_ rfl rfl)) ?_
        refine wp_iload (pc := 45) dX2_owedBy_45 (by first | rfl | assumption | (repeat first | assumption | rfl | refine aG_n ?_ rfl rfl)) ?_
        refine wp_cV (pc := 47) dX2_owedBy_47 lk_2_75 rfl (by decide) rfl (by first | rfl | assumption | exact sh_house (by omega) | exact sh_wish (by omega) | exact sh_wor (by omega) | exact sh_bar (by omega) | exact sh_term (by omega) | exact sh_sheet (by omega) | exact sh_items (by omega) | exact sh_sums (by omega)) rfl rfl ?_
        refine wp_aload_n (pc := 0) dX2_isBar_0 (by first | rfl | assumption | (repeat first | assumption | rfl | refine aG_n ?_ rfl rfl)) ?_
        refine wp_getR (pc := 1) dX2_isBar_1 fl_2_13 (by first | rfl | assumption | exact sh_house (by omega) | exact sh_wish (by omega) | exact sh_wor (by omega) | exact sh_bar (by omega) | exact sh_term (by omega) | exact sh_sheet (by omega) | exact sh_items (by omega) | exact sh_sums (by omega)) rfl ?_
        refine wp_iload_n (pc := 4) dX2_isBar_4 (by first | rfl | assumption | (repeat first | assumption | rfl | refine aG_n ?_ rfl rfl)) ?_
        refine wp_aald (pc := 5) dX2_isBar_5 (by first | rfl | assumption | exact sh_house (by omega) | exact sh_wish (by omega) | exact sh_wor (by omega) | exact sh_bar (by omega) | exact sh_term (by omega) | exact sh_sheet (by omega) | exact sh_items (by omega) | exact sh_sums (by omega)) (vp_in_nI (by omega) (by decide)) (by decide) (el_term (by omega)) ?_
        refine wp_getI (pc := 6) dX2_isBar_6 fl_2_32 (by first | rfl | assumption | exact sh_house (by omega) | exact sh_wish (by omega) | exact sh_wor (by omega) | exact sh_bar (by omega) | exact sh_term (by omega) | exact sh_sheet (by omega) | exact sh_items (by omega) | exact sh_sums (by omega)) rfl ?_
        refine wp_iconst (pc := 9) (v := 3) dX2_isBar_9 (by decide) ?_
        refine wp_icmp_ne (pc := 10) (tgt := 17) dX2_isBar_10 rfl (fun _ => ?_) (fun q => absurd q (by rw [f0]; exact p2))
        refine wp_iconst (pc := 17) (v := 0) dX2_isBar_17 (by decide) ?_
        refine wp_iretK (pc := 18) dX2_isBar_18 rfl (by first | rfl | decide | assumption) ?_
        refine wp_if_ne (pc := 50) (tgt := 78) dX2_owedBy_50 rfl (fun q => absurd q (by decide)) (fun _ => ?_)
        refine wp_iload (pc := 53) dX2_owedBy_53 (by first | rfl | assumption | (repeat first | assumption | rfl | refine aG_n ?_ rfl rfl)) ?_
        refine wp_iconst (pc := 55) (v := 2) dX2_owedBy_55 (by decide) ?_
        refine wp_icmp_eq (pc := 56) (tgt := 65) dX2_owedBy_56 rfl (fun q => absurd q s2) (fun _ => ?_)
        refine wp_iload (pc := 59) dX2_owedBy_59 (by first | rfl | assumption | (repeat first | assumption | rfl | refine aG_n ?_ rfl rfl)) ?_
        refine wp_iconst (pc := 61) (v := 4) dX2_owedBy_61 (by decide) ?_
        refine wp_icmp_ne (pc := 62) (tgt := 78) dX2_owedBy_62 rfl (fun q => absurd s4 q) (fun _ => ?_)
        refine wp_iload_n (pc := 65) dX2_owedBy_65 (by first | rfl | assumption | (repeat first | assumption | rfl | refine aG_n ?_ rfl rfl)) ?_
        refine wp_aload_n (pc := 66) dX2_owedBy_66 (by first | rfl | assumption | (repeat first | assumption | rfl | refine aG_n ?_ rfl rfl)) ?_
        refine wp_getR (pc := 67) dX2_owedBy_67 fl_2_13 (by first | rfl | assumption | exact sh_house (by omega) | exact sh_wish (by omega) | exact sh_wor (by omega) | exact sh_bar (by omega) | exact sh_term (by omega) | exact sh_sheet (by omega) | exact sh_items (by omega) | exact sh_sums (by omega)) rfl ?_
        refine wp_iload (pc := 70) dX2_owedBy_70 (by first | rfl | assumption | (repeat first | assumption | rfl | refine aG_n ?_ rfl rfl)) ?_
        refine wp_aald (pc := 72) dX2_owedBy_72 (by first | rfl | assumption | exact sh_house (by omega) | exact sh_wish (by omega) | exact sh_wor (by omega) | exact sh_bar (by omega) | exact sh_term (by omega) | exact sh_sheet (by omega) | exact sh_items (by omega) | exact sh_sums (by omega)) (vp_in_nI (by omega) (by decide)) (by decide) (el_term (by omega)) ?_
        refine wp_getI (pc := 73) dX2_owedBy_73 fl_2_41 (by first | rfl | assumption | exact sh_house (by omega) | exact sh_wish (by omega) | exact sh_wor (by omega) | exact sh_bar (by omega) | exact sh_term (by omega) | exact sh_sheet (by omega) | exact sh_items (by omega) | exact sh_sums (by omega)) rfl ?_
        refine wp_iadd (pc := 76) dX2_owedBy_76 ?_
        refine wp_istore_n (pc := 77) dX2_owedBy_77 (by decide) ?_
        refine wp_iinc (pc := 78) dX2_owedBy_78 (by decide) (by first | rfl | assumption | (repeat first | assumption | rfl | refine aG_n ?_ rfl rfl)) rfl ?_
        refine wp_goto (pc := 81) (tgt := 5) dX2_owedBy_81 rfl ?_
        exact l_owed hL k f (i + 1) (by omega) _ (by first | rfl | assumption | (repeat first | assumption | rfl | refine aG_n ?_ rfl rfl)) (by first | rfl | assumption | (repeat first | assumption | rfl | refine aG_n ?_ rfl rfl)) (by first | rfl | assumption | (repeat first | assumption | rfl | refine aG_n ?_ rfl rfl)) (by rw [← e, ← f3]; first | rfl | assumption | (repeat first | assumption | rfl | refine aG_n ?_ rfl rfl)) (by rw [← nI_i1]; first | rfl | assumption | (repeat first | assumption | rfl | refine aG_n ?_ rfl rfl))
    · rw [if_neg c, Int32.add_zero] at e
      by_cases p1 : μ.1 112 i = hs
      · by_cases p2 : μ.1 111 i = 3
        · refine wp_iload (pc := 5) dX2_owedBy_5 (by first | rfl | assumption | (repeat first | assumption | rfl | refine aG_n ?_ rfl rfl)) ?_
          refine wp_aload_n (pc := 7) dX2_owedBy_7 (by first | rfl | assumption | (repeat first | assumption | rfl | refine aG_n ?_ rfl rfl)) ?_
          refine wp_getI (pc := 8) dX2_owedBy_8 fl_2_28 (by first | rfl | assumption | exact sh_house (by omega) | exact sh_wish (by omega) | exact sh_wor (by omega) | exact sh_bar (by omega) | exact sh_term (by omega) | exact sh_sheet (by omega) | exact sh_items (by omega) | exact sh_sums (by omega)) rfl ?_
          refine wp_icmp_ge (pc := 11) (tgt := 84) dX2_owedBy_11 rfl (fun q => absurd q (by rw [hL.2.1]; exact nI_ge (by omega) (by omega))) (fun _ => ?_)
          refine wp_iload (pc := 14) dX2_owedBy_14 (by first | rfl | assumption | (repeat first | assumption | rfl | refine aG_n ?_ rfl rfl)) ?_
          refine wp_bipush (pc := 16) (v := 16) dX2_owedBy_16 (by decide) ?_
          refine wp_icmp_ge (pc := 18) (tgt := 84) dX2_owedBy_18 rfl (fun q => absurd q (nI_ge (b := 16) (by omega) (by omega))) (fun _ => ?_)
          refine wp_aload_n (pc := 21) dX2_owedBy_21 (by first | rfl | assumption | (repeat first | assumption | rfl | refine aG_n ?_ rfl rfl)) ?_
          refine wp_iload (pc := 22) dX2_owedBy_22 (by first | rfl | assumption | (repeat first | assumption | rfl | refine aG_n ?_ rfl rfl)) ?_
          refine wp_iload_n (pc := 24) dX2_owedBy_24 (by first | rfl | assumption | (repeat first | assumption | rfl | refine aG_n ?_ rfl rfl)) ?_
          refine wp_cV (pc := 25) dX2_owedBy_25 lk_2_72 rfl (by decide) rfl (by first | rfl | assumption | exact sh_house (by omega) | exact sh_wish (by omega) | exact sh_wor (by omega) | exact sh_bar (by omega) | exact sh_term (by omega) | exact sh_sheet (by omega) | exact sh_items (by omega) | exact sh_sums (by omega)) rfl rfl (c_X2_stateOf hL hin (aK_i ?_))
          refine wp_istore (pc := 28) dX2_owedBy_28 (by decide) ?_
          refine wp_aload_n (pc := 30) dX2_owedBy_30 (by first | rfl | assumption | (repeat first | assumption | rfl | refine aG_n ?_ rfl rfl)) ?_
          refine wp_getR (pc := 31) dX2_owedBy_31 fl_2_13 (by first | rfl | assumption | exact sh_house (by omega) | exact sh_wish (by omega) | exact sh_wor (by omega) | exact sh_bar (by omega) | exact sh_term (by omega) | exact sh_sheet (by omega) | exact sh_items (by omega) | exact sh_sums (by omega)) rfl ?_
          refine wp_iload (pc := 34) dX2_owedBy_34 (by first | rfl | assumption | (repeat first | assumption | rfl | refine aG_n ?_ rfl rfl)) ?_
          refine wp_aald (pc := 36) dX2_owedBy_36 (by first | rfl | assumption | exact sh_house (by omega) | exact sh_wish (by omega) | exact sh_wor (by omega) | exact sh_bar (by omega) | exact sh_term (by omega) | exact sh_sheet (by omega) | exact sh_items (by omega) | exact sh_sums (by omega)) (vp_in_nI (by omega) (by decide)) (by decide) (el_term (by omega)) ?_
          refine wp_getI (pc := 37) dX2_owedBy_37 fl_2_35 (by first | rfl | assumption | exact sh_house (by omega) | exact sh_wish (by omega) | exact sh_wor (by omega) | exact sh_bar (by omega) | exact sh_term (by omega) | exact sh_sheet (by omega) | exact sh_items (by omega) | exact sh_sums (by omega)) rfl ?_
          refine wp_iload_n (pc := 40) dX2_owedBy_40 (by first | rfl | assumption | (repeat first | assumption | rfl | refine aG_n ?_ rfl rfl)) ?_
          refine wp_icmp_ne (pc := 41) (tgt := 78) dX2_owedBy_41 rfl (fun q => absurd (f1.trans p1) q) (fun _ => ?_)
          refine wp_aload_n (pc := 44) dX2_owedBy_44 (by first | rfl | assumption | (repeat first | assumption | rfl | refine aG_n ?_ rfl rfl)) ?_
          refine wp_iload (pc := 45) dX2_owedBy_45 (by first | rfl | assumption | (repeat first | assumption | rfl | refine aG_n ?_ rfl rfl)) ?_
          refine wp_cV (pc := 47) dX2_owedBy_47 lk_2_75 rfl (by decide) rfl (by first | rfl | assumption | exact sh_house (by omega) | exact sh_wish (by omega) | exact sh_wor (by omega) | exact sh_bar (by omega) | exact sh_term (by omega) | exact sh_sheet (by omega) | exact sh_items (by omega) | exact sh_sums (by omega)) rfl rfl ?_
          refine wp_aload_n (pc := 0) dX2_isBar_0 (by first | rfl | assumption | (repeat first | assumption | rfl | refine aG_n ?_ rfl rfl)) ?_
          refine wp_getR (pc := 1) dX2_isBar_1 fl_2_13 (by first | rfl | assumption | exact sh_house (by omega) | exact sh_wish (by omega) | exact sh_wor (by omega) | exact sh_bar (by omega) | exact sh_term (by omega) | exact sh_sheet (by omega) | exact sh_items (by omega) | exact sh_sums (by omega)) rfl ?_
          refine wp_iload_n (pc := 4) dX2_isBar_4 (by first | rfl | assumption | (repeat first | assumption | rfl | refine aG_n ?_ rfl rfl)) ?_
          refine wp_aald (pc := 5) dX2_isBar_5 (by first | rfl | assumption | exact sh_house (by omega) | exact sh_wish (by omega) | exact sh_wor (by omega) | exact sh_bar (by omega) | exact sh_term (by omega) | exact sh_sheet (by omega) | exact sh_items (by omega) | exact sh_sums (by omega)) (vp_in_nI (by omega) (by decide)) (by decide) (el_term (by omega)) ?_
          refine wp_getI (pc := 6) dX2_isBar_6 fl_2_32 (by first | rfl | assumption | exact sh_house (by omega) | exact sh_wish (by omega) | exact sh_wor (by omega) | exact sh_bar (by omega) | exact sh_term (by omega) | exact sh_sheet (by omega) | exact sh_items (by omega) | exact sh_sums (by omega)) rfl ?_
          refine wp_iconst (pc := 9) (v := 3) dX2_isBar_9 (by decide) ?_
          refine wp_icmp_ne (pc := 10) (tgt := 17) dX2_isBar_10 rfl (fun q => absurd (f0.trans p2) q) (fun _ => ?_)
          refine wp_iconst (pc := 13) (v := 1) dX2_isBar_13 (by decide) ?_
          refine wp_goto (pc := 14) (tgt := 18) dX2_isBar_14 rfl ?_
          refine wp_iretK (pc := 18) dX2_isBar_18 rfl (by first | rfl | decide | assumption) ?_
          refine wp_if_ne (pc := 50) (tgt := 78) dX2_owedBy_50 rfl (fun _ => ?_) (fun q => absurd q (by decide))
          refine wp_iinc (pc := 78) dX2_owedBy_78 (by decide) (by first | rfl | assumption | (repeat first | assumption | rfl | refine aG_n ?_ rfl rfl)) rfl ?_
          refine wp_goto (pc := 81) (tgt := 5) dX2_owedBy_81 rfl ?_
          exact l_owed hL k f (i + 1) (by omega) _ (by first | rfl | assumption | (repeat first | assumption | rfl | refine aG_n ?_ rfl rfl)) (by first | rfl | assumption | (repeat first | assumption | rfl | refine aG_n ?_ rfl rfl)) (by first | rfl | assumption | (repeat first | assumption | rfl | refine aG_n ?_ rfl rfl)) (by rw [← e]; first | rfl | assumption | (repeat first | assumption | rfl | refine aG_n ?_ rfl rfl)) (by rw [← nI_i1]; first | rfl | assumption | (repeat first | assumption | rfl | refine aG_n ?_ rfl rfl))
        · have s2 : ¬ stV μ.1 h (μ.1 33 i) i = 2 := fun z => c ⟨p1, p2, Or.inl z⟩
          have s4 : ¬ stV μ.1 h (μ.1 33 i) i = 4 := fun z => c ⟨p1, p2, Or.inr z⟩
          refine wp_iload (pc := 5) dX2_owedBy_5 (by first | rfl | assumption | (repeat first | assumption | rfl | refine aG_n ?_ rfl rfl)) ?_
          refine wp_aload_n (pc := 7) dX2_owedBy_7 (by first | rfl | assumption | (repeat first | assumption | rfl | refine aG_n ?_ rfl rfl)) ?_
          refine wp_getI (pc := 8) dX2_owedBy_8 fl_2_28 (by first | rfl | assumption | exact sh_house (by omega) | exact sh_wish (by omega) | exact sh_wor (by omega) | exact sh_bar (by omega) | exact sh_term (by omega) | exact sh_sheet (by omega) | exact sh_items (by omega) | exact sh_sums (by omega)) rfl ?_
          refine wp_icmp_ge (pc := 11) (tgt := 84) dX2_owedBy_11 rfl (fun q => absurd q (by rw [hL.2.1]; exact nI_ge (by omega) (by omega))) (fun _ => ?_)
          refine wp_iload (pc := 14) dX2_owedBy_14 (by first | rfl | assumption | (repeat first | assumption | rfl | refine aG_n ?_ rfl rfl)) ?_
          refine wp_bipush (pc := 16) (v := 16) dX2_owedBy_16 (by decide) ?_
          refine wp_icmp_ge (pc := 18) (tgt := 84) dX2_owedBy_18 rfl (fun q => absurd q (nI_ge (b := 16) (by omega) (by omega))) (fun _ => ?_)
          refine wp_aload_n (pc := 21) dX2_owedBy_21 (by first | rfl | assumption | (repeat first | assumption | rfl | refine aG_n ?_ rfl rfl)) ?_
          refine wp_iload (pc := 22) dX2_owedBy_22 (by first | rfl | assumption | (repeat first | assumption | rfl | refine aG_n ?_ rfl rfl)) ?_
          refine wp_iload_n (pc := 24) dX2_owedBy_24 (by first | rfl | assumption | (repeat first | assumption | rfl | refine aG_n ?_ rfl rfl)) ?_
          refine wp_cV (pc := 25) dX2_owedBy_25 lk_2_72 rfl (by decide) rfl (by first | rfl | assumption | exact sh_house (by omega) | exact sh_wish (by omega) | exact sh_wor (by omega) | exact sh_bar (by omega) | exact sh_term (by omega) | exact sh_sheet (by omega) | exact sh_items (by omega) | exact sh_sums (by omega)) rfl rfl (c_X2_stateOf hL hin (aK_i ?_))
          refine wp_istore (pc := 28) dX2_owedBy_28 (by decide) ?_
          refine wp_aload_n (pc := 30) dX2_owedBy_30 (by first | rfl | assumption | (repeat first | assumption | rfl | refine aG_n ?_ rfl rfl)) ?_
          refine wp_getR (pc := 31) dX2_owedBy_31 fl_2_13 (by first | rfl | assumption | exact sh_house (by omega) | exact sh_wish (by omega) | exact sh_wor (by omega) | exact sh_bar (by omega) | exact sh_term (by omega) | exact sh_sheet (by omega) | exact sh_items (by omega) | exact sh_sums (by omega)) rfl ?_
          refine wp_iload (pc := 34) dX2_owedBy_34 (by first | rfl | assumption | (repeat first | assumption | rfl | refine aG_n ?_ rfl rfl)) ?_
          refine wp_aald (pc := 36) dX2_owedBy_36 (by first | rfl | assumption | exact sh_house (by omega) | exact sh_wish (by omega) | exact sh_wor (by omega) | exact sh_bar (by omega) | exact sh_term (by omega) | exact sh_sheet (by omega) | exact sh_items (by omega) | exact sh_sums (by omega)) (vp_in_nI (by omega) (by decide)) (by decide) (el_term (by omega)) ?_
          refine wp_getI (pc := 37) dX2_owedBy_37 fl_2_35 (by first | rfl | assumption | exact sh_house (by omega) | exact sh_wish (by omega) | exact sh_wor (by omega) | exact sh_bar (by omega) | exact sh_term (by omega) | exact sh_sheet (by omega) | exact sh_items (by omega) | exact sh_sums (by omega)) rfl ?_
          refine wp_iload_n (pc := 40) dX2_owedBy_40 (by first | rfl | assumption | (repeat first | assumption | rfl | refine aG_n ?_ rfl rfl)) ?_
          refine wp_icmp_ne (pc := 41) (tgt := 78) dX2_owedBy_41 rfl (fun q => absurd (f1.trans p1) q) (fun _ => ?_)
          refine wp_aload_n (pc := 44) dX2_owedBy_44 (by first | rfl | assumption | (repeat first | assumption | rfl | refine aG_n ?_ rfl rfl)) ?_
          refine wp_iload (pc := 45) dX2_owedBy_45 (by first | rfl | assumption | (repeat first | assumption | rfl | refine aG_n ?_ rfl rfl)) ?_
          refine wp_cV (pc := 47) dX2_owedBy_47 lk_2_75 rfl (by decide) rfl (by first | rfl | assumption | exact sh_house (by omega) | exact sh_wish (by omega) | exact sh_wor (by omega) | exact sh_bar (by omega) | exact sh_term (by omega) | exact sh_sheet (by omega) | exact sh_items (by omega) | exact sh_sums (by omega)) rfl rfl ?_
          refine wp_aload_n (pc := 0) dX2_isBar_0 (by first | rfl | assumption | (repeat first | assumption | rfl | refine aG_n ?_ rfl rfl)) ?_
          refine wp_getR (pc := 1) dX2_isBar_1 fl_2_13 (by first | rfl | assumption | exact sh_house (by omega) | exact sh_wish (by omega) | exact sh_wor (by omega) | exact sh_bar (by omega) | exact sh_term (by omega) | exact sh_sheet (by omega) | exact sh_items (by omega) | exact sh_sums (by omega)) rfl ?_
          refine wp_iload_n (pc := 4) dX2_isBar_4 (by first | rfl | assumption | (repeat first | assumption | rfl | refine aG_n ?_ rfl rfl)) ?_
          refine wp_aald (pc := 5) dX2_isBar_5 (by first | rfl | assumption | exact sh_house (by omega) | exact sh_wish (by omega) | exact sh_wor (by omega) | exact sh_bar (by omega) | exact sh_term (by omega) | exact sh_sheet (by omega) | exact sh_items (by omega) | exact sh_sums (by omega)) (vp_in_nI (by omega) (by decide)) (by decide) (el_term (by omega)) ?_
          refine wp_getI (pc := 6) dX2_isBar_6 fl_2_32 (by first | rfl | assumption | exact sh_house (by omega) | exact sh_wish (by omega) | exact sh_wor (by omega) | exact sh_bar (by omega) | exact sh_term (by omega) | exact sh_sheet (by omega) | exact sh_items (by omega) | exact sh_sums (by omega)) rfl ?_
          refine wp_iconst (pc := 9) (v := 3) dX2_isBar_9 (by decide) ?_
          refine wp_icmp_ne (pc := 10) (tgt := 17) dX2_isBar_10 rfl (fun _ => ?_) (fun q => absurd q (by rw [f0]; exact p2))
          refine wp_iconst (pc := 17) (v := 0) dX2_isBar_17 (by decide) ?_
          refine wp_iretK (pc := 18) dX2_isBar_18 rfl (by first | rfl | decide | assumption) ?_
          refine wp_if_ne (pc := 50) (tgt := 78) dX2_owedBy_50 rfl (fun q => absurd q (by decide)) (fun _ => ?_)
          refine wp_iload (pc := 53) dX2_owedBy_53 (by first | rfl | assumption | (repeat first | assumption | rfl | refine aG_n ?_ rfl rfl)) ?_
          refine wp_iconst (pc := 55) (v := 2) dX2_owedBy_55 (by decide) ?_
          refine wp_icmp_eq (pc := 56) (tgt := 65) dX2_owedBy_56 rfl (fun q => absurd q s2) (fun _ => ?_)
          refine wp_iload (pc := 59) dX2_owedBy_59 (by first | rfl | assumption | (repeat first | assumption | rfl | refine aG_n ?_ rfl rfl)) ?_
          refine wp_iconst (pc := 61) (v := 4) dX2_owedBy_61 (by decide) ?_
          refine wp_icmp_ne (pc := 62) (tgt := 78) dX2_owedBy_62 rfl (fun _ => ?_) (fun q => absurd q s4)
          refine wp_iinc (pc := 78) dX2_owedBy_78 (by decide) (by first | rfl | assumption | (repeat first | assumption | rfl | refine aG_n ?_ rfl rfl)) rfl ?_
          refine wp_goto (pc := 81) (tgt := 5) dX2_owedBy_81 rfl ?_
          exact l_owed hL k f (i + 1) (by omega) _ (by first | rfl | assumption | (repeat first | assumption | rfl | refine aG_n ?_ rfl rfl)) (by first | rfl | assumption | (repeat first | assumption | rfl | refine aG_n ?_ rfl rfl)) (by first | rfl | assumption | (repeat first | assumption | rfl | refine aG_n ?_ rfl rfl)) (by rw [← e]; first | rfl | assumption | (repeat first | assumption | rfl | refine aG_n ?_ rfl rfl)) (by rw [← nI_i1]; first | rfl | assumption | (repeat first | assumption | rfl | refine aG_n ?_ rfl rfl))
      · refine wp_iload (pc := 5) dX2_owedBy_5 (by first | rfl | assumption | (repeat first | assumption | rfl | refine aG_n ?_ rfl rfl)) ?_
        refine wp_aload_n (pc := 7) dX2_owedBy_7 (by first | rfl | assumption | (repeat first | assumption | rfl | refine aG_n ?_ rfl rfl)) ?_
        refine wp_getI (pc := 8) dX2_owedBy_8 fl_2_28 (by first | rfl | assumption | exact sh_house (by omega) | exact sh_wish (by omega) | exact sh_wor (by omega) | exact sh_bar (by omega) | exact sh_term (by omega) | exact sh_sheet (by omega) | exact sh_items (by omega) | exact sh_sums (by omega)) rfl ?_
        refine wp_icmp_ge (pc := 11) (tgt := 84) dX2_owedBy_11 rfl (fun q => absurd q (by rw [hL.2.1]; exact nI_ge (by omega) (by omega))) (fun _ => ?_)
        refine wp_iload (pc := 14) dX2_owedBy_14 (by first | rfl | assumption | (repeat first | assumption | rfl | refine aG_n ?_ rfl rfl)) ?_
        refine wp_bipush (pc := 16) (v := 16) dX2_owedBy_16 (by decide) ?_
        refine wp_icmp_ge (pc := 18) (tgt := 84) dX2_owedBy_18 rfl (fun q => absurd q (nI_ge (b := 16) (by omega) (by omega))) (fun _ => ?_)
        refine wp_aload_n (pc := 21) dX2_owedBy_21 (by first | rfl | assumption | (repeat first | assumption | rfl | refine aG_n ?_ rfl rfl)) ?_
        refine wp_iload (pc := 22) dX2_owedBy_22 (by first | rfl | assumption | (repeat first | assumption | rfl | refine aG_n ?_ rfl rfl)) ?_
        refine wp_iload_n (pc := 24) dX2_owedBy_24 (by first | rfl | assumption | (repeat first | assumption | rfl | refine aG_n ?_ rfl rfl)) ?_
        refine wp_cV (pc := 25) dX2_owedBy_25 lk_2_72 rfl (by decide) rfl (by first | rfl | assumption | exact sh_house (by omega) | exact sh_wish (by omega) | exact sh_wor (by omega) | exact sh_bar (by omega) | exact sh_term (by omega) | exact sh_sheet (by omega) | exact sh_items (by omega) | exact sh_sums (by omega)) rfl rfl (c_X2_stateOf hL hin (aK_i ?_))
        refine wp_istore (pc := 28) dX2_owedBy_28 (by decide) ?_
        refine wp_aload_n (pc := 30) dX2_owedBy_30 (by first | rfl | assumption | (repeat first | assumption | rfl | refine aG_n ?_ rfl rfl)) ?_
        refine wp_getR (pc := 31) dX2_owedBy_31 fl_2_13 (by first | rfl | assumption | exact sh_house (by omega) | exact sh_wish (by omega) | exact sh_wor (by omega) | exact sh_bar (by omega) | exact sh_term (by omega) | exact sh_sheet (by omega) | exact sh_items (by omega) | exact sh_sums (by omega)) rfl ?_
        refine wp_iload (pc := 34) dX2_owedBy_34 (by first | rfl | assumption | (repeat first | assumption | rfl | refine aG_n ?_ rfl rfl)) ?_
        refine wp_aald (pc := 36) dX2_owedBy_36 (by first | rfl | assumption | exact sh_house (by omega) | exact sh_wish (by omega) | exact sh_wor (by omega) | exact sh_bar (by omega) | exact sh_term (by omega) | exact sh_sheet (by omega) | exact sh_items (by omega) | exact sh_sums (by omega)) (vp_in_nI (by omega) (by decide)) (by decide) (el_term (by omega)) ?_
        refine wp_getI (pc := 37) dX2_owedBy_37 fl_2_35 (by first | rfl | assumption | exact sh_house (by omega) | exact sh_wish (by omega) | exact sh_wor (by omega) | exact sh_bar (by omega) | exact sh_term (by omega) | exact sh_sheet (by omega) | exact sh_items (by omega) | exact sh_sums (by omega)) rfl ?_
        refine wp_iload_n (pc := 40) dX2_owedBy_40 (by first | rfl | assumption | (repeat first | assumption | rfl | refine aG_n ?_ rfl rfl)) ?_
        refine wp_icmp_ne (pc := 41) (tgt := 78) dX2_owedBy_41 rfl (fun _ => ?_) (fun q => absurd q (by rw [f1]; exact p1))
        refine wp_iinc (pc := 78) dX2_owedBy_78 (by decide) (by first | rfl | assumption | (repeat first | assumption | rfl | refine aG_n ?_ rfl rfl)) rfl ?_
        refine wp_goto (pc := 81) (tgt := 5) dX2_owedBy_81 rfl ?_
        exact l_owed hL k f (i + 1) (by omega) _ (by first | rfl | assumption | (repeat first | assumption | rfl | refine aG_n ?_ rfl rfl)) (by first | rfl | assumption | (repeat first | assumption | rfl | refine aG_n ?_ rfl rfl)) (by first | rfl | assumption | (repeat first | assumption | rfl | refine aG_n ?_ rfl rfl)) (by rw [← e]; first | rfl | assumption | (repeat first | assumption | rfl | refine aG_n ?_ rfl rfl)) (by rw [← nI_i1]; first | rfl | assumption | (repeat first | assumption | rfl | refine aG_n ?_ rfl rfl))
theorem c_X2_owedBy (hL : LT μ.1 n) (k : Q (some (.int (oF μ.1 h (μ.1 33) hs n))) μ) : WP X mX2_owedBy 0 (lv_args 0 [.ref 31, .int hs, .int h]) [] μ Q := by
  refine wp_iconst (pc := 0) (v := 0) dX2_owedBy_0 (by decide) ?_
  refine wp_istore_n (pc := 1) dX2_owedBy_1 (by decide) ?_
  refine wp_iconst (pc := 2) (v := 0) dX2_owedBy_2 (by decide) ?_
  refine wp_istore (pc := 3) dX2_owedBy_3 (by decide) ?_
  exact l_owed hL k n 0 (by omega) _ (by first | rfl | assumption | (repeat first | assumption | rfl | refine aG_n ?_ rfl rfl)) (by first | rfl | assumption | (repeat first | assumption | rfl | refine aG_n ?_ rfl rfl)) (by first | rfl | assumption | (repeat first | assumption | rfl | refine aG_n ?_ rfl rfl)) (by first | rfl | assumption | (repeat first | assumption | rfl | refine aG_n ?_ rfl rfl)) (by first | rfl | assumption | (repeat first | assumption | rfl | refine aG_n ?_ rfl rfl))
theorem l_owesM (hn : n ≤ 16) (h86 : μ.1 86 37 = nI n) (hS : ∀ j, j < n → μ.1 122 j = stV μ.1 h (E j) j) (k : Q (some (.int (oF μ.1 h E hs n))) μ) : ∀ (f i : Nat), i + f = n → ∀ L : aL, aL_get L 0 = some (.ref 86) → aL_get L 1 = some (.int hs) → aL_get L 3 = some (.int (oF μ.1 h E hs i)) → aL_get L 4 = some (.int (nI i)) → WP X mX12_owes 26 L [] μ Q
  | 0, i, hi, L, g0, g1, g3, g4 => by
    obtain rfl : i = n := by omega
    refine wp_iload (pc := 26) dX12_owes_26 (by first | rfl | assumption | (repeat first | assumption | rfl | refine aG_n ?_ rfl rfl)) ?_
    refine wp_aload_n (pc := 28) dX12_owes_28 (by first | rfl | assumption | (repeat first | assumption | rfl | refine aG_n ?_ rfl rfl)) ?_
    refine wp_getI (pc := 29) dX12_owes_29 fl_12_319 (by first | rfl | assumption | exact sh_house (by omega) | exact sh_wish (by omega) | exact sh_wor (by omega) | exact sh_bar (by omega) | exact sh_term (by omega) | exact sh_sheet (by omega) | exact sh_items (by omega) | exact sh_sums (by omega)) rfl ?_
    refine wp_icmp_ge (pc := 32) (tgt := 111) dX12_owes_32 rfl (fun _ => ?_) (fun q => absurd (by rw [h86]; exact nI_le (by omega) (by omega)) q)
    refine wp_iload_n (pc := 111) dX12_owes_111 (by first | rfl | assumption | (repeat first | assumption | rfl | refine aG_n ?_ rfl rfl)) ?_
    refine wp_ireturn (pc := 112) dX12_owes_112 rfl (by first | rfl | decide | assumption) ?_
    exact k
  | f + 1, i, hi, L, g0, g1, g3, g4 => by
    have hin : i < n := by omega
    have ci : (nI i).toNatClampNeg = i := nI_clamp (by omega)
    have hSi := hS i hin
    have e : oF μ.1 h E hs i + (if oP μ.1 h E hs i then μ.1 114 i else 0) = oF μ.1 h E hs (i + 1) := rfl
    by_cases c : oP μ.1 h E hs i
    · rw [if_pos c] at e
      obtain ⟨p1, p2, p3⟩ := id c
      by_cases s2 : stV μ.1 h (E i) i = 2
      · refine wp_iload (pc := 26) dX12_owes_26 (by first | rfl | assumption | (repeat first | assumption | rfl | refine aG_n ?_ rfl rfl)) ?_
        refine wp_aload_n (pc := 28) dX12_owes_28 (by first | rfl | assumption | (repeat first | assumption | rfl | refine aG_n ?_ rfl rfl)) ?_
        refine wp_getI (pc := 29) dX12_owes_29 fl_12_319 (by first | rfl | assumption | exact sh_house (by omega) | exact sh_wish (by omega) | exact sh_wor (by omega) | exact sh_bar (by omega) | exact sh_term (by omega) | exact sh_sheet (by omega) | exact sh_items (by omega) | exact sh_sums (by omega)) rfl ?_
        refine wp_icmp_ge (pc := 32) (tgt := 111) dX12_owes_32 rfl (fun q => absurd q (by rw [h86]; exact nI_ge (by omega) (by omega))) (fun _ => ?_)
        refine wp_aload_n (pc := 35) dX12_owes_35 (by first | rfl | assumption | (repeat first | assumption | rfl | refine aG_n ?_ rfl rfl)) ?_
        refine wp_getR (pc := 36) dX12_owes_36 fl_12_83 (by first | rfl | assumption | exact sh_house (by omega) | exact sh_wish (by omega) | exact sh_wor (by omega) | exact sh_bar (by omega) | exact sh_term (by omega) | exact sh_sheet (by omega) | exact sh_items (by omega) | exact sh_sums (by omega)) rfl ?_
        refine wp_iload (pc := 39) dX12_owes_39 (by first | rfl | assumption | (repeat first | assumption | rfl | refine aG_n ?_ rfl rfl)) ?_
        refine wp_iald (pc := 41) dX12_owes_41 (by first | rfl | assumption | exact sh_house (by omega) | exact sh_wish (by omega) | exact sh_wor (by omega) | exact sh_bar (by omega) | exact sh_term (by omega) | exact sh_sheet (by omega) | exact sh_items (by omega) | exact sh_sums (by omega)) (vp_in_nI (by omega) (by decide)) ?_
        refine wp_iconst (pc := 42) (v := 3) dX12_owes_42 (by decide) ?_
        refine wp_icmp_eq (pc := 43) (tgt := 83) dX12_owes_43 rfl (fun q => absurd q (by rw [ci]; exact p2)) (fun _ => ?_)
        refine wp_aload_n (pc := 46) dX12_owes_46 (by first | rfl | assumption | (repeat first | assumption | rfl | refine aG_n ?_ rfl rfl)) ?_
        refine wp_getR (pc := 47) dX12_owes_47 fl_12_86 (by first | rfl | assumption | exact sh_house (by omega) | exact sh_wish (by omega) | exact sh_wor (by omega) | exact sh_bar (by omega) | exact sh_term (by omega) | exact sh_sheet (by omega) | exact sh_items (by omega) | exact sh_sums (by omega)) rfl ?_
        refine wp_iload (pc := 50) dX12_owes_50 (by first | rfl | assumption | (repeat first | assumption | rfl | refine aG_n ?_ rfl rfl)) ?_
        refine wp_iald (pc := 52) dX12_owes_52 (by first | rfl | assumption | exact sh_house (by omega) | exact sh_wish (by omega) | exact sh_wor (by omega) | exact sh_bar (by omega) | exact sh_term (by omega) | exact sh_sheet (by omega) | exact sh_items (by omega) | exact sh_sums (by omega)) (vp_in_nI (by omega) (by decide)) ?_
        refine wp_iload_n (pc := 53) dX12_owes_53 (by first | rfl | assumption | (repeat first | assumption | rfl | refine aG_n ?_ rfl rfl)) ?_
        refine wp_icmp_ne (pc := 54) (tgt := 83) dX12_owes_54 rfl (fun q => absurd (by rw [ci]; exact p1) q) (fun _ => ?_)
        refine wp_aload_n (pc := 57) dX12_owes_57 (by first | rfl | assumption | (repeat first | assumption | rfl | refine aG_n ?_ rfl rfl)) ?_
        refine wp_getR (pc := 58) dX12_owes_58 fl_12_116 (by first | rfl | assumption | exact sh_house (by omega) | exact sh_wish (by omega) | exact sh_wor (by omega) | exact sh_bar (by omega) | exact sh_term (by omega) | exact sh_sheet (by omega) | exact sh_items (by omega) | exact sh_sums (by omega)) rfl ?_
        refine wp_iload (pc := 61) dX12_owes_61 (by first | rfl | assumption | (repeat first | assumption | rfl | refine aG_n ?_ rfl rfl)) ?_
        refine wp_iald (pc := 63) dX12_owes_63 (by first | rfl | assumption | exact sh_house (by omega) | exact sh_wish (by omega) | exact sh_wor (by omega) | exact sh_bar (by omega) | exact sh_term (by omega) | exact sh_sheet (by omega) | exact sh_items (by omega) | exact sh_sums (by omega)) (vp_in_nI (by omega) (by decide)) ?_
        refine wp_iconst (pc := 64) (v := 2) dX12_owes_64 (by decide) ?_
        refine wp_icmp_eq (pc := 65) (tgt := 79) dX12_owes_65 rfl (fun _ => ?_) (fun q => absurd (by rw [ci, hSi]; exact s2) q)
        refine wp_iconst (pc := 79) (v := 1) dX12_owes_79 (by decide) ?_
        refine wp_goto (pc := 80) (tgt := 84) dX12_owes_80 rfl ?_
        refine wp_istore (pc := 84) dX12_owes_84 (by decide) ?_
        refine wp_iload_n (pc := 86) dX12_owes_86 (by first | rfl | assumption | (repeat first | assumption | rfl | refine aG_n ?_ rfl rfl)) ?_
        refine wp_iload (pc := 87) dX12_owes_87 (by first | rfl | assumption | (repeat first | assumption | rfl | refine aG_n ?_ rfl rfl)) ?_
        refine wp_if_eq (pc := 89) (tgt := 102) dX12_owes_89 rfl (fun q => absurd q (by decide)) (fun _ => ?_)
        refine wp_aload_n (pc := 92) dX12_owes_92 (by first | rfl | assumption | (repeat first | assumption | rfl | refine aG_n ?_ rfl rfl)) ?_
        refine wp_getR (pc := 93) dX12_owes_93 fl_12_92 (by first | rfl | assumption | exact sh_house (by omega) | exact sh_wish (by omega) | exact sh_wor (by omega) | exact sh_bar (by omega) | exact sh_term (by omega) | exact sh_sheet (by omega) | exact sh_items (by omega) | exact sh_sums (by omega)) rfl ?_
        refine wp_iload (pc := 96) dX12_owes_96 (by first | rfl | assumption | (repeat first | assumption | rfl | refine aG_n ?_ rfl rfl)) ?_
        refine wp_iald (pc := 98) dX12_owes_98 (by first | rfl | assumption | exact sh_house (by omega) | exact sh_wish (by omega) | exact sh_wor (by omega) | exact sh_bar (by omega) | exact sh_term (by omega) | exact sh_sheet (by omega) | exact sh_items (by omega) | exact sh_sums (by omega)) (vp_in_nI (by omega) (by decide)) ?_
        refine wp_goto (pc := 99) (tgt := 103) dX12_owes_99 rfl ?_
        refine wp_iadd (pc := 103) dX12_owes_103 ?_
        refine wp_istore_n (pc := 104) dX12_owes_104 (by decide) ?_
        refine wp_iinc (pc := 105) dX12_owes_105 (by decide) (by first | rfl | assumption | (repeat first | assumption | rfl | refine aG_n ?_ rfl rfl)) rfl ?_
        refine wp_goto (pc := 108) (tgt := 26) dX12_owes_108 rfl ?_
        exact l_owesM hn h86 hS k f (i + 1) (by omega) _ (by first | rfl | assumption | (repeat first | assumption | rfl | refine aG_n ?_ rfl rfl)) (by first | rfl | assumption | (repeat first | assumption | rfl | refine aG_n ?_ rfl rfl)) (by rw [← e, ← ci]; simp only [ci]; first | rfl | assumption | (repeat first | assumption | rfl | refine aG_n ?_ rfl rfl)) (by rw [← nI_i1]; first | rfl | assumption | (repeat first | assumption | rfl | refine aG_n ?_ rfl rfl))
      · have s4 := p3.resolve_left s2
        refine wp_iload (pc := 26) dX12_owes_26 (by first | rfl | assumption | (repeat first | assumption | rfl | refine aG_n ?_ rfl rfl)) ?_
        refine wp_aload_n (pc := 28) dX12_owes_28 (by first | rfl | assumption | (repeat first | assumption | rfl | refine aG_n ?_ rfl rfl)) ?_
        refine wp_getI (pc := 29) dX12_owes_29 fl_12_319 (by first | rfl | assumption | exact sh_house (by omega) | exact sh_wish (by omega) | exact sh_wor (by omega) | exact sh_bar (by omega) | exact sh_term (by omega) | exact sh_sheet (by omega) | exact sh_items (by omega) | exact sh_sums (by omega)) rfl ?_
        refine wp_icmp_ge (pc := 32) (tgt := 111) dX12_owes_32 rfl (fun q => absurd q (by rw [h86]; exact nI_ge (by omega) (by omega))) (fun _ => ?_)
        refine wp_aload_n (pc := 35) dX12_owes_35 (by first | rfl | assumption | (repeat first | assumption | rfl | refine aG_n ?_ rfl rfl)) ?_
        refine wp_getR (pc := 36) dX12_owes_36 fl_12_83 (by first | rfl | assumption | exact sh_house (by omega) | exact sh_wish (by omega) | exact sh_wor (by omega) | exact sh_bar (by omega) | exact sh_term (by omega) | exact sh_sheet (by omega) | exact sh_items (by omega) | exact sh_sums (by omega)) rfl ?_
        refine wp_iload (pc := 39) dX12_owes_39 (by first | rfl | assumption | (repeat first | assumption | rfl | refine aG_n ?_ rfl rfl)) ?_
        refine wp_iald (pc := 41) dX12_owes_41 (by first | rfl | assumption | exact sh_house (by omega) | exact sh_wish (by omega) | exact sh_wor (by omega) | exact sh_bar (by omega) | exact sh_term (by omega) | exact sh_sheet (by omega) | exact sh_items (by omega) | exact sh_sums (by omega)) (vp_in_nI (by omega) (by decide)) ?_
        refine wp_iconst (pc := 42) (v := 3) dX12_owes_42 (by decide) ?_
        refine wp_icmp_eq (pc := 43) (tgt := 83) dX12_owes_43 rfl (fun q => absurd q (by rw [ci]; exact p2)) (fun _ => ?_)
        refine wp_aload_n (pc := 46) dX12_owes_46 (by first | rfl | assumption | (repeat first | assumption | rfl | refine aG_n ?_ rfl rfl)) ?_
        refine wp_getR (pc := 47) dX12_owes_47 fl_12_86 (by first | rfl | assumption | exact sh_house (by omega) | exact sh_wish (by omega) | exact sh_wor (by omega) | exact sh_bar (by omega) | exact sh_term (by omega) | exact sh_sheet (by omega) | exact sh_items (by omega) | exact sh_sums (by omega)) rfl ?_
        refine wp_iload (pc := 50) dX12_owes_50 (by first | rfl | assumption | (repeat first | assumption | rfl | refine aG_n ?_ rfl rfl)) ?_
        refine wp_iald (pc := 52) dX12_owes_52 (by first | rfl | assumption | exact sh_house (by omega) | exact sh_wish (by omega) | exact sh_wor (by omega) | exact sh_bar (by omega) | exact sh_term (by omega) | exact sh_sheet (by omega) | exact sh_items (by omega) | exact sh_sums (by omega)) (vp_in_nI (by omega) (by decide)) ?_
        refine wp_iload_n (pc := 53) dX12_owes_53 (by first | rfl | assumption | (repeat first | assumption | rfl | refine aG_n ?_ rfl rfl)) ?_
        refine wp_icmp_ne (pc := 54) (tgt := 83) dX12_owes_54 rfl (fun q => absurd (by rw [ci]; exact p1) q) (fun _ => ?_)
        refine wp_aload_n (pc := 57) dX12_owes_57 (by first | rfl | assumption | (repeat first | assumption | rfl | refine aG_n ?_ rfl rfl)) ?_
        refine wp_getR (pc := 58) dX12_owes_58 fl_12_116 (by first | rfl | assumption | exact sh_house (by omega) | exact sh_wish (by omega) | exact sh_wor (by omega) | exact sh_bar (by omega) | exact sh_term (by omega) | exact sh_sheet (by omega) | exact sh_items (by omega) | exact sh_sums (by omega)) rfl ?_
        refine wp_iload (pc := 61) dX12_owes_61 (by first | rfl | assumption | (repeat first | assumption | rfl | refine aG_n ?_ rfl rfl)) ?_
        refine wp_iald (pc := 63) dX12_owes_63 (by first | rfl | assumption | exact sh_house (by omega) | exact sh_wish (by omega) | exact sh_wor (by omega) | exact sh_bar (by omega) | exact sh_term (by omega) | exact sh_sheet (by omega) | exact sh_items (by omega) | exact sh_sums (by omega)) (vp_in_nI (by omega) (by decide)) ?_
        refine wp_iconst (pc := 64) (v := 2) dX12_owes_64 (by decide) ?_
        refine wp_icmp_eq (pc := 65) (tgt := 79) dX12_owes_65 rfl (fun q => absurd q (by rw [ci, hSi]; exact s2)) (fun _ => ?_)
        refine wp_aload_n (pc := 68) dX12_owes_68 (by first | rfl | assumption | (repeat first | assumption | rfl | refine aG_n ?_ rfl rfl)) ?_
        refine wp_getR (pc := 69) dX12_owes_69 fl_12_116 (by first | rfl | assumption | exact sh_house (by omega) | exact sh_wish (by omega) | exact sh_wor (by omega) | exact sh_bar (by omega) | exact sh_term (by omega) | exact sh_sheet (by omega) | exact sh_items (by omega) | exact sh_sums (by omega)) rfl ?_
        refine wp_iload (pc := 72) dX12_owes_72 (by first | rfl | assumption | (repeat first | assumption | rfl | refine aG_n ?_ rfl rfl)) ?_
        refine wp_iald (pc := 74) dX12_owes_74 (by first | rfl | assumption | exact sh_house (by omega) | exact sh_wish (by omega) | exact sh_wor (by omega) | exact sh_bar (by omega) | exact sh_term (by omega) | exact sh_sheet (by omega) | exact sh_items (by omega) | exact sh_sums (by omega)) (vp_in_nI (by omega) (by decide)) ?_
        refine wp_iconst (pc := 75) (v := 4) dX12_owes_75 (by decide) ?_
        refine wp_icmp_ne (pc := 76) (tgt := 83) dX12_owes_76 rfl (fun q => absurd (by rw [ci, hSi]; exact s4) q) (fun _ => ?_)
        refine wp_iconst (pc := 79) (v := 1) dX12_owes_79 (by decide) ?_
        refine wp_goto (pc := 80) (tgt := 84) dX12_owes_80 rfl ?_
        refine wp_istore (pc := 84) dX12_owes_84 (by decide) ?_
        refine wp_iload_n (pc := 86) dX12_owes_86 (by first | rfl | assumption | (repeat first | assumption | rfl | refine aG_n ?_ rfl rfl)) ?_
        refine wp_iload (pc := 87) dX12_owes_87 (by first | rfl | assumption | (repeat first | assumption | rfl | refine aG_n ?_ rfl rfl)) ?_
        refine wp_if_eq (pc := 89) (tgt := 102) dX12_owes_89 rfl (fun q => absurd q (by decide)) (fun _ => ?_)
        refine wp_aload_n (pc := 92) dX12_owes_92 (by first | rfl | assumption | (repeat first | assumption | rfl | refine aG_n ?_ rfl rfl)) ?_
        refine wp_getR (pc := 93) dX12_owes_93 fl_12_92 (by first | rfl | assumption | exact sh_house (by omega) | exact sh_wish (by omega) | exact sh_wor (by omega) | exact sh_bar (by omega) | exact sh_term (by omega) | exact sh_sheet (by omega) | exact sh_items (by omega) | exact sh_sums (by omega)) rfl ?_
        refine wp_iload (pc := 96) dX12_owes_96 (by first | rfl | assumption | (repeat first | assumption | rfl | refine aG_n ?_ rfl rfl)) ?_
        refine wp_iald (pc := 98) dX12_owes_98 (by first | rfl | assumption | exact sh_house (by omega) | exact sh_wish (by omega) | exact sh_wor (by omega) | exact sh_bar (by omega) | exact sh_term (by omega) | exact sh_sheet (by omega) | exact sh_items (by omega) | exact sh_sums (by omega)) (vp_in_nI (by omega) (by decide)) ?_
        refine wp_goto (pc := 99) (tgt := 103) dX12_owes_99 rfl ?_
        refine wp_iadd (pc := 103) dX12_owes_103 ?_
        refine wp_istore_n (pc := 104) dX12_owes_104 (by decide) ?_
        refine wp_iinc (pc := 105) dX12_owes_105 (by decide) (by first | rfl | assumption | (repeat first | assumption | rfl | refine aG_n ?_ rfl rfl)) rfl ?_
        refine wp_goto (pc := 108) (tgt := 26) dX12_owes_108 rfl ?_
        exact l_owesM hn h86 hS k f (i + 1) (by omega) _ (by first | rfl | assumption | (repeat first | assumption | rfl | refine aG_n ?_ rfl rfl)) (by first | rfl | assumption | (repeat first | assumption | rfl | refine aG_n ?_ rfl rfl)) (by rw [← e, ← ci]; simp only [ci]; first | rfl | assumption | (repeat first | assumption | rfl | refine aG_n ?_ rfl rfl)) (by rw [← nI_i1]; first | rfl | assumption | (repeat first | assumption | rfl | refine aG_n ?_ rfl rfl))
    · rw [if_neg c] at e
      by_cases p2 : μ.1 111 i = 3
      · refine wp_iload (pc := 26) dX12_owes_26 (by first | rfl | assumption | (repeat first | assumption | rfl | refine aG_n ?_ rfl rfl)) ?_
        refine wp_aload_n (pc := 28) dX12_owes_28 (by first | rfl | assumption | (repeat first | assumption | rfl | refine aG_n ?_ rfl rfl)) ?_
        refine wp_getI (pc := 29) dX12_owes_29 fl_12_319 (by first | rfl | assumption | exact sh_house (by omega) | exact sh_wish (by omega) | exact sh_wor (by omega) | exact sh_bar (by omega) | exact sh_term (by omega) | exact sh_sheet (by omega) | exact sh_items (by omega) | exact sh_sums (by omega)) rfl ?_
        refine wp_icmp_ge (pc := 32) (tgt := 111) dX12_owes_32 rfl (fun q => absurd q (by rw [h86]; exact nI_ge (by omega) (by omega))) (fun _ => ?_)
        refine wp_aload_n (pc := 35) dX12_owes_35 (by first | rfl | assumption | (repeat first | assumption | rfl | refine aG_n ?_ rfl rfl)) ?_
        refine wp_getR (pc := 36) dX12_owes_36 fl_12_83 (by first | rfl | assumption | exact sh_house (by omega) | exact sh_wish (by omega) | exact sh_wor (by omega) | exact sh_bar (by omega) | exact sh_term (by omega) | exact sh_sheet (by omega) | exact sh_items (by omega) | exact sh_sums (by omega)) rfl ?_
        refine wp_iload (pc := 39) dX12_owes_39 (by first | rfl | assumption | (repeat first | assumption | rfl | refine aG_n ?_ rfl rfl)) ?_
        refine wp_iald (pc := 41) dX12_owes_41 (by first | rfl | assumption | exact sh_house (by omega) | exact sh_wish (by omega) | exact sh_wor (by omega) | exact sh_bar (by omega) | exact sh_term (by omega) | exact sh_sheet (by omega) | exact sh_items (by omega) | exact sh_sums (by omega)) (vp_in_nI (by omega) (by decide)) ?_
        refine wp_iconst (pc := 42) (v := 3) dX12_owes_42 (by decide) ?_
        refine wp_icmp_eq (pc := 43) (tgt := 83) dX12_owes_43 rfl (fun _ => ?_) (fun q => absurd (by rw [ci]; exact p2) q)
        refine wp_iconst (pc := 83) (v := 0) dX12_owes_83 (by decide) ?_
        refine wp_istore (pc := 84) dX12_owes_84 (by decide) ?_
        refine wp_iload_n (pc := 86) dX12_owes_86 (by first | rfl | assumption | (repeat first | assumption | rfl | refine aG_n ?_ rfl rfl)) ?_
        refine wp_iload (pc := 87) dX12_owes_87 (by first | rfl | assumption | (repeat first | assumption | rfl | refine aG_n ?_ rfl rfl)) ?_
        refine wp_if_eq (pc := 89) (tgt := 102) dX12_owes_89 rfl (fun _ => ?_) (fun q => absurd q (by decide))
        refine wp_iconst (pc := 102) (v := 0) dX12_owes_102 (by decide) ?_
        refine wp_iadd (pc := 103) dX12_owes_103 ?_
        refine wp_istore_n (pc := 104) dX12_owes_104 (by decide) ?_
        refine wp_iinc (pc := 105) dX12_owes_105 (by decide) (by first | rfl | assumption | (repeat first | assumption | rfl | refine aG_n ?_ rfl rfl)) rfl ?_
        refine wp_goto (pc := 108) (tgt := 26) dX12_owes_108 rfl ?_
        exact l_owesM hn h86 hS k f (i + 1) (by omega) _ (by first | rfl | assumption | (repeat first | assumption | rfl | refine aG_n ?_ rfl rfl)) (by first | rfl | assumption | (repeat first | assumption | rfl | refine aG_n ?_ rfl rfl)) (by rw [← e]; first | rfl | assumption | (repeat first | assumption | rfl | refine aG_n ?_ rfl rfl)) (by rw [← nI_i1]; first | rfl | assumption | (repeat first | assumption | rfl | refine aG_n ?_ rfl rfl))
      · by_cases p1 : μ.1 112 i = hs
        · have s2 : ¬ stV μ.1 h (E i) i = 2 := fun z => c ⟨p1, p2, Or.inl z⟩
          have s4 : ¬ stV μ.1 h (E i) i = 4 := fun z => c ⟨p1, p2, Or.inr z⟩
          refine wp_iload (pc := 26) dX12_owes_26 (by first | rfl | assumption | (repeat first | assumption | rfl | refine aG_n ?_ rfl rfl)) ?_
          refine wp_aload_n (pc := 28) dX12_owes_28 (by first | rfl | assumption | (repeat first | assumption | rfl | refine aG_n ?_ rfl rfl)) ?_
          refine wp_getI (pc := 29) dX12_owes_29 fl_12_319 (by first | rfl | assumption | exact sh_house (by omega) | exact sh_wish (by omega) | exact sh_wor (by omega) | exact sh_bar (by omega) | exact sh_term (by omega) | exact sh_sheet (by omega) | exact sh_items (by omega) | exact sh_sums (by omega)) rfl ?_
          refine wp_icmp_ge (pc := 32) (tgt := 111) dX12_owes_32 rfl (fun q => absurd q (by rw [h86]; exact nI_ge (by omega) (by omega))) (fun _ => ?_)
          refine wp_aload_n (pc := 35) dX12_owes_35 (by first | rfl | assumption | (repeat first | assumption | rfl | refine aG_n ?_ rfl rfl)) ?_
          refine wp_getR (pc := 36) dX12_owes_36 fl_12_83 (by first | rfl | assumption | exact sh_house (by omega) | exact sh_wish (by omega) | exact sh_wor (by omega) | exact sh_bar (by omega) | exact sh_term (by omega) | exact sh_sheet (by omega) | exact sh_items (by omega) | exact sh_sums (by omega)) rfl ?_
          refine wp_iload (pc := 39) dX12_owes_39 (by first | rfl | assumption | (repeat first | assumption | rfl | refine aG_n ?_ rfl rfl)) ?_
          refine wp_iald (pc := 41) dX12_owes_41 (by first | rfl | assumption | exact sh_house (by omega) | exact sh_wish (by omega) | exact sh_wor (by omega) | exact sh_bar (by omega) | exact sh_term (by omega) | exact sh_sheet (by omega) | exact sh_items (by omega) | exact sh_sums (by omega)) (vp_in_nI (by omega) (by decide)) ?_
          refine wp_iconst (pc := 42) (v := 3) dX12_owes_42 (by decide) ?_
          refine wp_icmp_eq (pc := 43) (tgt := 83) dX12_owes_43 rfl (fun q => absurd q (by rw [ci]; exact p2)) (fun _ => ?_)
          refine wp_aload_n (pc := 46) dX12_owes_46 (by first | rfl | assumption | (repeat first | assumption | rfl | refine aG_n ?_ rfl rfl)) ?_
          refine wp_getR (pc := 47) dX12_owes_47 fl_12_86 (by first | rfl | assumption | exact sh_house (by omega) | exact sh_wish (by omega) | exact sh_wor (by omega) | exact sh_bar (by omega) | exact sh_term (by omega) | exact sh_sheet (by omega) | exact sh_items (by omega) | exact sh_sums (by omega)) rfl ?_
          refine wp_iload (pc := 50) dX12_owes_50 (by first | rfl | assumption | (repeat first | assumption | rfl | refine aG_n ?_ rfl rfl)) ?_
          refine wp_iald (pc := 52) dX12_owes_52 (by first | rfl | assumption | exact sh_house (by omega) | exact sh_wish (by omega) | exact sh_wor (by omega) | exact sh_bar (by omega) | exact sh_term (by omega) | exact sh_sheet (by omega) | exact sh_items (by omega) | exact sh_sums (by omega)) (vp_in_nI (by omega) (by decide)) ?_
          refine wp_iload_n (pc := 53) dX12_owes_53 (by first | rfl | assumption | (repeat first | assumption | rfl | refine aG_n ?_ rfl rfl)) ?_
          refine wp_icmp_ne (pc := 54) (tgt := 83) dX12_owes_54 rfl (fun q => absurd (by rw [ci]; exact p1) q) (fun _ => ?_)
          refine wp_aload_n (pc := 57) dX12_owes_57 (by first | rfl | assumption | (repeat first | assumption | rfl | refine aG_n ?_ rfl rfl)) ?_
          refine wp_getR (pc := 58) dX12_owes_58 fl_12_116 (by first | rfl | assumption | exact sh_house (by omega) | exact sh_wish (by omega) | exact sh_wor (by omega) | exact sh_bar (by omega) | exact sh_term (by omega) | exact sh_sheet (by omega) | exact sh_items (by omega) | exact sh_sums (by omega)) rfl ?_
          refine wp_iload (pc := 61) dX12_owes_61 (by first | rfl | assumption | (repeat first | assumption | rfl | refine aG_n ?_ rfl rfl)) ?_
          refine wp_iald (pc := 63) dX12_owes_63 (by first | rfl | assumption | exact sh_house (by omega) | exact sh_wish (by omega) | exact sh_wor (by omega) | exact sh_bar (by omega) | exact sh_term (by omega) | exact sh_sheet (by omega) | exact sh_items (by omega) | exact sh_sums (by omega)) (vp_in_nI (by omega) (by decide)) ?_
          refine wp_iconst (pc := 64) (v := 2) dX12_owes_64 (by decide) ?_
          refine wp_icmp_eq (pc := 65) (tgt := 79) dX12_owes_65 rfl (fun q => absurd q (by rw [ci, hSi]; exact s2)) (fun _ => ?_)
          refine wp_aload_n (pc := 68) dX12_owes_68 (by first | rfl | assumption | (repeat first | assumption | rfl | refine aG_n ?_ rfl rfl)) ?_
          refine wp_getR (pc := 69) dX12_owes_69 fl_12_116 (by first | rfl | assumption | exact sh_house (by omega) | exact sh_wish (by omega) | exact sh_wor (by omega) | exact sh_bar (by omega) | exact sh_term (by omega) | exact sh_sheet (by omega) | exact sh_items (by omega) | exact sh_sums (by omega)) rfl ?_
          refine wp_iload (pc := 72) dX12_owes_72 (by first | rfl | assumption | (repeat first | assumption | rfl | refine aG_n ?_ rfl rfl)) ?_
          refine wp_iald (pc := 74) dX12_owes_74 (by first | rfl | assumption | exact sh_house (by omega) | exact sh_wish (by omega) | exact sh_wor (by omega) | exact sh_bar (by omega) | exact sh_term (by omega) | exact sh_sheet (by omega) | exact sh_items (by omega) | exact sh_sums (by omega)) (vp_in_nI (by omega) (by decide)) ?_
          refine wp_iconst (pc := 75) (v := 4) dX12_owes_75 (by decide) ?_
          refine wp_icmp_ne (pc := 76) (tgt := 83) dX12_owes_76 rfl (fun _ => ?_) (fun q => absurd q (by rw [ci, hSi]; exact s4))
          refine wp_iconst (pc := 83) (v := 0) dX12_owes_83 (by decide) ?_
          refine wp_istore (pc := 84) dX12_owes_84 (by decide) ?_
          refine wp_iload_n (pc := 86) dX12_owes_86 (by first | rfl | assumption | (repeat first | assumption | rfl | refine aG_n ?_ rfl rfl)) ?_
          refine wp_iload (pc := 87) dX12_owes_87 (by first | rfl | assumption | (repeat first | assumption | rfl | refine aG_n ?_ rfl rfl)) ?_
          refine wp_if_eq (pc := 89) (tgt := 102) dX12_owes_89 rfl (fun _ => ?_) (fun q => absurd q (by decide))
          refine wp_iconst (pc := 102) (v := 0) dX12_owes_102 (by decide) ?_
          refine wp_iadd (pc := 103) dX12_owes_103 ?_
          refine wp_istore_n (pc := 104) dX12_owes_104 (by decide) ?_
          refine wp_iinc (pc := 105) dX12_owes_105 (by decide) (by first | rfl | assumption | (repeat first | assumption | rfl | refine aG_n ?_ rfl rfl)) rfl ?_
          refine wp_goto (pc := 108) (tgt := 26) dX12_owes_108 rfl ?_
          exact l_owesM hn h86 hS k f (i + 1) (by omega) _ (by first | rfl | assumption | (repeat first | assumption | rfl | refine aG_n ?_ rfl rfl)) (by first | rfl | assumption | (repeat first | assumption | rfl | refine aG_n ?_ rfl rfl)) (by rw [← e]; first | rfl | assumption | (repeat first | assumption | rfl | refine aG_n ?_ rfl rfl)) (by rw [← nI_i1]; first | rfl | assumption | (repeat first | assumption | rfl | refine aG_n ?_ rfl rfl))
        · refine wp_iload (pc := 26) dX12_owes_26 (by first | rfl | assumption | (repeat first | assumption | rfl | refine aG_n ?_ rfl rfl)) ?_
          refine wp_aload_n (pc := 28) dX12_owes_28 (by first | rfl | assumption | (repeat first | assumption | rfl | refine aG_n ?_ rfl rfl)) ?_
          refine wp_getI (pc := 29) dX12_owes_29 fl_12_319 (by first | rfl | assumption | exact sh_house (by omega) | exact sh_wish (by omega) | exact sh_wor (by omega) | exact sh_bar (by omega) | exact sh_term (by omega) | exact sh_sheet (by omega) | exact sh_items (by omega) | exact sh_sums (by omega)) rfl ?_
          refine wp_icmp_ge (pc := 32) (tgt := 111) dX12_owes_32 rfl (fun q => absurd q (by rw [h86]; exact nI_ge (by omega) (by omega))) (fun _ => ?_)
          refine wp_aload_n (pc := 35) dX12_owes_35 (by first | rfl | assumption | (repeat first | assumption | rfl | refine aG_n ?_ rfl rfl)) ?_
          refine wp_getR (pc := 36) dX12_owes_36 fl_12_83 (by first | rfl | assumption | exact sh_house (by omega) | exact sh_wish (by omega) | exact sh_wor (by omega) | exact sh_bar (by omega) | exact sh_term (by omega) | exact sh_sheet (by omega) | exact sh_items (by omega) | exact sh_sums (by omega)) rfl ?_
          refine wp_iload (pc := 39) dX12_owes_39 (by first | rfl | assumption | (repeat first | assumption | rfl | refine aG_n ?_ rfl rfl)) ?_
          refine wp_iald (pc := 41) dX12_owes_41 (by first | rfl | assumption | exact sh_house (by omega) | exact sh_wish (by omega) | exact sh_wor (by omega) | exact sh_bar (by omega) | exact sh_term (by omega) | exact sh_sheet (by omega) | exact sh_items (by omega) | exact sh_sums (by omega)) (vp_in_nI (by omega) (by decide)) ?_
          refine wp_iconst (pc := 42) (v := 3) dX12_owes_42 (by decide) ?_
          refine wp_icmp_eq (pc := 43) (tgt := 83) dX12_owes_43 rfl (fun q => absurd q (by rw [ci]; exact p2)) (fun _ => ?_)
          refine wp_aload_n (pc := 46) dX12_owes_46 (by first | rfl | assumption | (repeat first | assumption | rfl | refine aG_n ?_ rfl rfl)) ?_
          refine wp_getR (pc := 47) dX12_owes_47 fl_12_86 (by first | rfl | assumption | exact sh_house (by omega) | exact sh_wish (by omega) | exact sh_wor (by omega) | exact sh_bar (by omega) | exact sh_term (by omega) | exact sh_sheet (by omega) | exact sh_items (by omega) | exact sh_sums (by omega)) rfl ?_
          refine wp_iload (pc := 50) dX12_owes_50 (by first | rfl | assumption | (repeat first | assumption | rfl | refine aG_n ?_ rfl rfl)) ?_
          refine wp_iald (pc := 52) dX12_owes_52 (by first | rfl | assumption | exact sh_house (by omega) | exact sh_wish (by omega) | exact sh_wor (by omega) | exact sh_bar (by omega) | exact sh_term (by omega) | exact sh_sheet (by omega) | exact sh_items (by omega) | exact sh_sums (by omega)) (vp_in_nI (by omega) (by decide)) ?_
          refine wp_iload_n (pc := 53) dX12_owes_53 (by first | rfl | assumption | (repeat first | assumption | rfl | refine aG_n ?_ rfl rfl)) ?_
          refine wp_icmp_ne (pc := 54) (tgt := 83) dX12_owes_54 rfl (fun _ => ?_) (fun q => absurd q (by rw [ci]; exact p1))
          refine wp_iconst (pc := 83) (v := 0) dX12_owes_83 (by decide) ?_
          refine wp_istore (pc := 84) dX12_owes_84 (by decide) ?_
          refine wp_iload_n (pc := 86) dX12_owes_86 (by first | rfl | assumption | (repeat first | assumption | rfl | refine aG_n ?_ rfl rfl)) ?_
          refine wp_iload (pc := 87) dX12_owes_87 (by first | rfl | assumption | (repeat first | assumption | rfl | refine aG_n ?_ rfl rfl)) ?_
          refine wp_if_eq (pc := 89) (tgt := 102) dX12_owes_89 rfl (fun _ => ?_) (fun q => absurd q (by decide))
          refine wp_iconst (pc := 102) (v := 0) dX12_owes_102 (by decide) ?_
          refine wp_iadd (pc := 103) dX12_owes_103 ?_
          refine wp_istore_n (pc := 104) dX12_owes_104 (by decide) ?_
          refine wp_iinc (pc := 105) dX12_owes_105 (by decide) (by first | rfl | assumption | (repeat first | assumption | rfl | refine aG_n ?_ rfl rfl)) rfl ?_
          refine wp_goto (pc := 108) (tgt := 26) dX12_owes_108 rfl ?_
          exact l_owesM hn h86 hS k f (i + 1) (by omega) _ (by first | rfl | assumption | (repeat first | assumption | rfl | refine aG_n ?_ rfl rfl)) (by first | rfl | assumption | (repeat first | assumption | rfl | refine aG_n ?_ rfl rfl)) (by rw [← e]; first | rfl | assumption | (repeat first | assumption | rfl | refine aG_n ?_ rfl rfl)) (by rw [← nI_i1]; first | rfl | assumption | (repeat first | assumption | rfl | refine aG_n ?_ rfl rfl))
end OWES
theorem J_owes (a h : Int32) : Jnt mX11_owes mX12_owes [.int a, .int h] := by
  intro X μ Q hI k
  obtain ⟨n, hL⟩ := LT_of hI.2.2.2.2.2.2.1
  have hn := hL.1
  by_cases c1 : inR a 0 3
  · by_cases c2 : inR h 0 9999
    · refine wp_iload_n (pc := 0) dX11_owes_0 (by first | rfl | assumption | (repeat first | assumption | rfl | refine aG_n ?_ rfl rfl)) ?_
      refine wp_cS (pc := 1) dX11_owes_1 lk_11_101 rfl rfl rfl (c_X11_isHouse (fun _ => aK_i ?_) (fun q => absurd c1 q))
      refine wp_if_eq (pc := 4) (tgt := 14) dX11_owes_4 rfl (fun q => absurd q (by decide)) (fun _ => ?_)
      refine wp_iload_n (pc := 7) dX11_owes_7 (by first | rfl | assumption | (repeat first | assumption | rfl | refine aG_n ?_ rfl rfl)) ?_
      refine wp_cS (pc := 8) dX11_owes_8 lk_11_294 rfl rfl rfl (c_X11_isHour (fun _ => aK_i ?_) (fun q => absurd c2 q))
      refine wp_if_ne (pc := 11) (tgt := 16) dX11_owes_11 rfl (fun _ => ?_) (fun q => absurd q (by decide))
      refine wp_aload_n (pc := 16) dX11_owes_16 (by first | rfl | assumption | (repeat first | assumption | rfl | refine aG_n ?_ rfl rfl)) ?_
      refine wp_getR (pc := 17) dX11_owes_17 fl_11_53 (by first | rfl | assumption | exact sh_house (by omega) | exact sh_wish (by omega) | exact sh_wor (by omega) | exact sh_bar (by omega) | exact sh_term (by omega) | exact sh_sheet (by omega) | exact sh_items (by omega) | exact sh_sums (by omega)) rfl ?_
      refine wp_iload_n (pc := 20) dX11_owes_20 (by first | rfl | assumption | (repeat first | assumption | rfl | refine aG_n ?_ rfl rfl)) ?_
      refine wp_cV (pc := 21) dX11_owes_21 lk_11_334 rfl (by decide) rfl (by first | rfl | assumption | exact sh_house (by omega) | exact sh_wish (by omega) | exact sh_wor (by omega) | exact sh_bar (by omega) | exact sh_term (by omega) | exact sh_sheet (by omega) | exact sh_items (by omega) | exact sh_sums (by omega)) rfl rfl ?_
      refine c_X2_settle hL (fun μ1 s1 r1 e1 => aK_v ?_)
      have hL1 : LT μ1.1 n := LT_c hL (fun c hc => s1 c (by omega))
      refine wp_aload_n (pc := 24) dX11_owes_24 (by first | rfl | assumption | (repeat first | assumption | rfl | refine aG_n ?_ rfl rfl)) ?_
      refine wp_getR (pc := 25) dX11_owes_25 fl_11_53 (by first | rfl | assumption | exact sh_house (by omega) | exact sh_wish (by omega) | exact sh_wor (by omega) | exact sh_bar (by omega) | exact sh_term (by omega) | exact sh_sheet (by omega) | exact sh_items (by omega) | exact sh_sums (by omega)) rfl ?_
      refine wp_iload_n (pc := 28) dX11_owes_28 (by first | rfl | assumption | (repeat first | assumption | rfl | refine aG_n ?_ rfl rfl)) ?_
      refine wp_iload_n (pc := 29) dX11_owes_29 (by first | rfl | assumption | (repeat first | assumption | rfl | refine aG_n ?_ rfl rfl)) ?_
      refine wp_cV (pc := 30) dX11_owes_30 lk_11_343 rfl (by decide) rfl (by first | rfl | assumption | exact sh_house (by omega) | exact sh_wish (by omega) | exact sh_wor (by omega) | exact sh_bar (by omega) | exact sh_term (by omega) | exact sh_sheet (by omega) | exact sh_items (by omega) | exact sh_sums (by omega)) rfl rfl (c_X2_owedBy hL1 (aK_i ?_))
      refine wp_ireturn (pc := 33) dX11_owes_33 rfl (by first | rfl | decide | assumption) ?_
      refine k _ _ (fun Q' k' => ?_)
      refine wp_iload_n (pc := 0) dX12_owes_0 (by first | rfl | assumption | (repeat first | assumption | rfl | refine aG_n ?_ rfl rfl)) ?_
      refine wp_cS (pc := 1) dX12_owes_1 lk_12_143 rfl rfl rfl (c_X12_isHouse (fun _ => aK_i ?_) (fun q => absurd c1 q))
      refine wp_if_eq (pc := 4) (tgt := 14) dX12_owes_4 rfl (fun q => absurd q (by decide)) (fun _ => ?_)
      refine wp_iload_n (pc := 7) dX12_owes_7 (by first | rfl | assumption | (repeat first | assumption | rfl | refine aG_n ?_ rfl rfl)) ?_
      refine wp_cS (pc := 8) dX12_owes_8 lk_12_326 rfl rfl rfl (c_X12_isHour (fun _ => aK_i ?_) (fun q => absurd c2 q))
      refine wp_if_ne (pc := 11) (tgt := 16) dX12_owes_11 rfl (fun _ => ?_) (fun q => absurd q (by decide))
      refine wp_aload_n (pc := 16) dX12_owes_16 (by first | rfl | assumption | (repeat first | assumption | rfl | refine aG_n ?_ rfl rfl)) ?_
      refine wp_iload_n (pc := 17) dX12_owes_17 (by first | rfl | assumption | (repeat first | assumption | rfl | refine aG_n ?_ rfl rfl)) ?_
      refine wp_cV (pc := 18) dX12_owes_18 lk_12_341 rfl (by decide) rfl (by first | rfl | assumption | exact sh_house (by omega) | exact sh_wish (by omega) | exact sh_wor (by omega) | exact sh_bar (by omega) | exact sh_term (by omega) | exact sh_sheet (by omega) | exact sh_items (by omega) | exact sh_sums (by omega)) rfl rfl ?_
      refine c_X12_findStates hL1 (fun μ2 s2 r2 e2 => aK_v ?_)
      refine wp_iconst (pc := 21) (v := 0) dX12_owes_21 (by decide) ?_
      refine wp_istore_n (pc := 22) dX12_owes_22 (by decide) ?_
      refine wp_iconst (pc := 23) (v := 0) dX12_owes_23 (by decide) ?_
      refine wp_istore (pc := 24) dX12_owes_24 (by decide) ?_
      skip
      have hm : ∀ c, 111 ≤ c → c ≤ 119 → μ1.1 c = μ.1 c := fun c _ _ => s1 c (by omega)
      have hm2 : ∀ c, 111 ≤ c → c ≤ 119 → μ2.1 c = μ1.1 c := fun c _ _ => s2 c (by omega)
      have eu := eO_u (h := h) (E := μ1.1 33) (E' := μ2.1 120) hL (fun i hi => e1 i hi) (fun i hi => by rw [← eO_m hm]; exact (e2 i hi).1)
      refine l_owesM (E := μ2.1 120) (h := h) hn (by rw [s2 86 (by omega)]; exact hL1.2.2.1) (fun j hj => by rw [(st_m hm2).1]; exact (e2 j hj).2.2) (qEq ?_ (k' _ (Inv_st hI s1 r1 s2 r2))) n 0 (by omega) _ (by first | rfl | assumption | (repeat first | assumption | rfl | refine aG_n ?_ rfl rfl)) (by first | rfl | assumption | (repeat first | assumption | rfl | refine aG_n ?_ rfl rfl)) (by first | rfl | assumption | (repeat first | assumption | rfl | refine aG_n ?_ rfl rfl)) (by first | rfl | assumption | (repeat first | assumption | rfl | refine aG_n ?_ rfl rfl))
      exact oF_c hm2 n eu
    · refine wp_iload_n (pc := 0) dX11_owes_0 (by first | rfl | assumption | (repeat first | assumption | rfl | refine aG_n ?_ rfl rfl)) ?_
      refine wp_cS (pc := 1) dX11_owes_1 lk_11_101 rfl rfl rfl (c_X11_isHouse (fun _ => aK_i ?_) (fun q => absurd c1 q))
      refine wp_if_eq (pc := 4) (tgt := 14) dX11_owes_4 rfl (fun q => absurd q (by decide)) (fun _ => ?_)
      refine wp_iload_n (pc := 7) dX11_owes_7 (by first | rfl | assumption | (repeat first | assumption | rfl | refine aG_n ?_ rfl rfl)) ?_
      refine wp_cS (pc := 8) dX11_owes_8 lk_11_294 rfl rfl rfl (c_X11_isHour (fun q => absurd q c2) (fun _ => aK_i ?_))
      refine wp_if_ne (pc := 11) (tgt := 16) dX11_owes_11 rfl (fun q => absurd q (by decide)) (fun _ => ?_)
      refine wp_iconst (pc := 14) (v := -1) dX11_owes_14 (by decide) ?_
      refine wp_ireturn (pc := 15) dX11_owes_15 rfl (by first | rfl | decide | assumption) ?_
      refine k _ _ (fun Q' k' => ?_)
      refine wp_iload_n (pc := 0) dX12_owes_0 (by first | rfl | assumption | (repeat first | assumption | rfl | refine aG_n ?_ rfl rfl)) ?_
      refine wp_cS (pc := 1) dX12_owes_1 lk_12_143 rfl rfl rfl (c_X12_isHouse (fun _ => aK_i ?_) (fun q => absurd c1 q))
      refine wp_if_eq (pc := 4) (tgt := 14) dX12_owes_4 rfl (fun q => absurd q (by decide)) (fun _ => ?_)
      refine wp_iload_n (pc := 7) dX12_owes_7 (by first | rfl | assumption | (repeat first | assumption | rfl | refine aG_n ?_ rfl rfl)) ?_
      refine wp_cS (pc := 8) dX12_owes_8 lk_12_326 rfl rfl rfl (c_X12_isHour (fun q => absurd q c2) (fun _ => aK_i ?_))
      refine wp_if_ne (pc := 11) (tgt := 16) dX12_owes_11 rfl (fun q => absurd q (by decide)) (fun _ => ?_)
      refine wp_iconst (pc := 14) (v := -1) dX12_owes_14 (by decide) ?_
      refine wp_ireturn (pc := 15) dX12_owes_15 rfl (by first | rfl | decide | assumption) ?_
      exact k' _ hI
  · refine wp_iload_n (pc := 0) dX11_owes_0 (by first | rfl | assumption | (repeat first | assumption | rfl | refine aG_n ?_ rfl rfl)) ?_
    refine wp_cS (pc := 1) dX11_owes_1 lk_11_101 rfl rfl rfl (c_X11_isHouse (fun q => absurd q c1) (fun _ => aK_i ?_))
    refine wp_if_eq (pc := 4) (tgt := 14) dX11_owes_4 rfl (fun _ => ?_) (fun q => absurd q (by decide))
    refine wp_iconst (pc := 14) (v := -1) dX11_owes_14 (by decide) ?_
    refine wp_ireturn (pc := 15) dX11_owes_15 rfl (by first | rfl | decide | assumption) ?_
    refine k _ _ (fun Q' k' => ?_)
    refine wp_iload_n (pc := 0) dX12_owes_0 (by first | rfl | assumption | (repeat first | assumption | rfl | refine aG_n ?_ rfl rfl)) ?_
    refine wp_cS (pc := 1) dX12_owes_1 lk_12_143 rfl rfl rfl (c_X12_isHouse (fun q => absurd q c1) (fun _ => aK_i ?_))
    refine wp_if_eq (pc := 4) (tgt := 14) dX12_owes_4 rfl (fun _ => ?_) (fun q => absurd q (by decide))
    refine wp_iconst (pc := 14) (v := -1) dX12_owes_14 (by decide) ?_
    refine wp_ireturn (pc := 15) dX12_owes_15 rfl (by first | rfl | decide | assumption) ?_
    exact k' _ hI

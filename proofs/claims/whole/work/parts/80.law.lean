section LAWC
variable {X : aX} {μ : Mm} {Q : Option Value → Mm → Prop} {L : aL} {t : Nat}
theorem law_own (hJ : ∀ (x0 : Int32) (x1 : Int32), Jnt mX11_own mX12_own [.int x0, .int x1]) (g0 : aL_get L 0 = some (.retAddr 0)) (g1 : aL_get L 1 = some (.ref 0)) (g2 : aL_get L 2 = some (.ref 86)) (g3 : aL_get L 3 = some (.int (nI (6 * t)))) (hb : 6 * t + 6 ≤ (X 0).1) (hN : (X 0).1 ≤ 3072) (hI : Inv μ) (kk : ∀ μ2, Inv μ2 → WP X mL_law 1737 L [] μ2 Q) : WP X mL_law 224 L [] μ Q := by
  refine wp_aload_n (pc := 224) dL_law_224 (by first | rfl | assumption | (repeat first | assumption | rfl | refine aG_n ?_ rfl rfl)) ?_
  refine wp_eload_n (pc := 225) dL_law_225 (by first | rfl | assumption | (repeat first | assumption | rfl | refine aG_n ?_ rfl rfl)) ?_
  refine wp_iload_n (pc := 226) dL_law_226 (by first | rfl | assumption | (repeat first | assumption | rfl | refine aG_n ?_ rfl rfl)) ?_
  refine wp_iconst (pc := 227) (v := 1) dL_law_227 (by decide) ?_
  refine wp_iadd (pc := 228) dL_law_228 ?_
  refine wp_sald (pc := 229) dL_law_229 (show vp_in (nI (6 * t) + nI 1) (X 0).1 by rw [nI_add]; exact vp_in_nI (by omega) (by omega)) ?_
  refine wp_eload_n (pc := 230) dL_law_230 (by first | rfl | assumption | (repeat first | assumption | rfl | refine aG_n ?_ rfl rfl)) ?_
  refine wp_iload_n (pc := 231) dL_law_231 (by first | rfl | assumption | (repeat first | assumption | rfl | refine aG_n ?_ rfl rfl)) ?_
  refine wp_iconst (pc := 232) (v := 2) dL_law_232 (by decide) ?_
  refine wp_iadd (pc := 233) dL_law_233 ?_
  refine wp_sald (pc := 234) dL_law_234 (show vp_in (nI (6 * t) + nI 2) (X 0).1 by rw [nI_add]; exact vp_in_nI (by omega) (by omega)) ?_
  refine wp_cV (pc := 235) dL_law_235 lk_13_13 rfl (by decide) rfl (by first | rfl | assumption | exact sh_house (by omega) | exact sh_wish (by omega) | exact sh_wor (by omega) | exact sh_bar (by omega) | exact sh_term (by omega) | exact sh_sheet (by omega) | exact sh_items (by omega) | exact sh_sums (by omega)) rfl rfl ((hJ _ _) _ _ _ hI (fun v9 μ9 hm => aK_i ?_))
  refine wp_aload_n (pc := 238) dL_law_238 (by first | rfl | assumption | (repeat first | assumption | rfl | refine aG_n ?_ rfl rfl)) ?_
  refine wp_eload_n (pc := 239) dL_law_239 (by first | rfl | assumption | (repeat first | assumption | rfl | refine aG_n ?_ rfl rfl)) ?_
  refine wp_iload_n (pc := 240) dL_law_240 (by first | rfl | assumption | (repeat first | assumption | rfl | refine aG_n ?_ rfl rfl)) ?_
  refine wp_iconst (pc := 241) (v := 1) dL_law_241 (by decide) ?_
  refine wp_iadd (pc := 242) dL_law_242 ?_
  refine wp_sald (pc := 243) dL_law_243 (show vp_in (nI (6 * t) + nI 1) (X 0).1 by rw [nI_add]; exact vp_in_nI (by omega) (by omega)) ?_
  refine wp_eload_n (pc := 244) dL_law_244 (by first | rfl | assumption | (repeat first | assumption | rfl | refine aG_n ?_ rfl rfl)) ?_
  refine wp_iload_n (pc := 245) dL_law_245 (by first | rfl | assumption | (repeat first | assumption | rfl | refine aG_n ?_ rfl rfl)) ?_
  refine wp_iconst (pc := 246) (v := 2) dL_law_246 (by decide) ?_
  refine wp_iadd (pc := 247) dL_law_247 ?_
  refine wp_sald (pc := 248) dL_law_248 (show vp_in (nI (6 * t) + nI 2) (X 0).1 by rw [nI_add]; exact vp_in_nI (by omega) (by omega)) ?_
  refine wp_cV (pc := 249) dL_law_249 lk_13_17 rfl (by decide) rfl (by first | rfl | assumption | exact sh_house (by omega) | exact sh_wish (by omega) | exact sh_wor (by omega) | exact sh_bar (by omega) | exact sh_term (by omega) | exact sh_sheet (by omega) | exact sh_items (by omega) | exact sh_sums (by omega)) rfl rfl (hm _ (fun μ8 hI8 => aK_i ?_))
  refine wp_icmp_eq (pc := 252) (tgt := 1737) dL_law_252 rfl (fun _ => ?_) (fun q => absurd rfl q)
  exact kk _ hI8
theorem law_coins (hJ : ∀ (x0 : Int32) (x1 : Int32), Jnt mX11_coins mX12_coins [.int x0, .int x1]) (g0 : aL_get L 0 = some (.retAddr 0)) (g1 : aL_get L 1 = some (.ref 0)) (g2 : aL_get L 2 = some (.ref 86)) (g3 : aL_get L 3 = some (.int (nI (6 * t)))) (hb : 6 * t + 6 ≤ (X 0).1) (hN : (X 0).1 ≤ 3072) (hI : Inv μ) (kk : ∀ μ2, Inv μ2 → WP X mL_law 1737 L [] μ2 Q) : WP X mL_law 257 L [] μ Q := by
  refine wp_aload_n (pc := 257) dL_law_257 (by first | rfl | assumption | (repeat first | assumption | rfl | refine aG_n ?_ rfl rfl)) ?_
  refine wp_eload_n (pc := 258) dL_law_258 (by first | rfl | assumption | (repeat first | assumption | rfl | refine aG_n ?_ rfl rfl)) ?_
  refine wp_iload_n (pc := 259) dL_law_259 (by first | rfl | assumption | (repeat first | assumption | rfl | refine aG_n ?_ rfl rfl)) ?_
  refine wp_iconst (pc := 260) (v := 1) dL_law_260 (by decide) ?_
  refine wp_iadd (pc := 261) dL_law_261 ?_
  refine wp_sald (pc := 262) dL_law_262 (show vp_in (nI (6 * t) + nI 1) (X 0).1 by rw [nI_add]; exact vp_in_nI (by omega) (by omega)) ?_
  refine wp_eload_n (pc := 263) dL_law_263 (by first | rfl | assumption | (repeat first | assumption | rfl | refine aG_n ?_ rfl rfl)) ?_
  refine wp_iload_n (pc := 264) dL_law_264 (by first | rfl | assumption | (repeat first | assumption | rfl | refine aG_n ?_ rfl rfl)) ?_
  refine wp_iconst (pc := 265) (v := 2) dL_law_265 (by decide) ?_
  refine wp_iadd (pc := 266) dL_law_266 ?_
  refine wp_sald (pc := 267) dL_law_267 (show vp_in (nI (6 * t) + nI 2) (X 0).1 by rw [nI_add]; exact vp_in_nI (by omega) (by omega)) ?_
  refine wp_cV (pc := 268) dL_law_268 lk_13_18 rfl (by decide) rfl (by first | rfl | assumption | exact sh_house (by omega) | exact sh_wish (by omega) | exact sh_wor (by omega) | exact sh_bar (by omega) | exact sh_term (by omega) | exact sh_sheet (by omega) | exact sh_items (by omega) | exact sh_sums (by omega)) rfl rfl ((hJ _ _) _ _ _ hI (fun v9 μ9 hm => aK_i ?_))
  refine wp_aload_n (pc := 271) dL_law_271 (by first | rfl | assumption | (repeat first | assumption | rfl | refine aG_n ?_ rfl rfl)) ?_
  refine wp_eload_n (pc := 272) dL_law_272 (by first | rfl | assumption | (repeat first | assumption | rfl | refine aG_n ?_ rfl rfl)) ?_
  refine wp_iload_n (pc := 273) dL_law_273 (by first | rfl | assumption | (repeat first | assumption | rfl | refine aG_n ?_ rfl rfl)) ?_
  refine wp_iconst (pc := 274) (v := 1) dL_law_274 (by decide) ?_
  refine wp_iadd (pc := 275) dL_law_275 ?_
  refine wp_sald (pc := 276) dL_law_276 (show vp_in (nI (6 * t) + nI 1) (X 0).1 by rw [nI_add]; exact vp_in_nI (by omega) (by omega)) ?_
  refine wp_eload_n (pc := 277) dL_law_277 (by first | rfl | assumption | (repeat first | assumption | rfl | refine aG_n ?_ rfl rfl)) ?_
  refine wp_iload_n (pc := 278) dL_law_278 (by first | rfl | assumption | (repeat first | assumption | rfl | refine aG_n ?_ rfl rfl)) ?_
  refine wp_iconst (pc := 279) (v := 2) dL_law_279 (by decide) ?_
  refine wp_iadd (pc := 280) dL_law_280 ?_
  refine wp_sald (pc := 281) dL_law_281 (show vp_in (nI (6 * t) + nI 2) (X 0).1 by rw [nI_add]; exact vp_in_nI (by omega) (by omega)) ?_
  refine wp_cV (pc := 282) dL_law_282 lk_13_21 rfl (by decide) rfl (by first | rfl | assumption | exact sh_house (by omega) | exact sh_wish (by omega) | exact sh_wor (by omega) | exact sh_bar (by omega) | exact sh_term (by omega) | exact sh_sheet (by omega) | exact sh_items (by omega) | exact sh_sums (by omega)) rfl rfl (hm _ (fun μ8 hI8 => aK_i ?_))
  refine wp_icmp_eq (pc := 285) (tgt := 1737) dL_law_285 rfl (fun _ => ?_) (fun q => absurd rfl q)
  exact kk _ hI8
theorem law_type (hJ : ∀ (x0 : Int64) (x1 : Int32), Jnt mX11_type mX12_type [.long x0, .int x1]) (g0 : aL_get L 0 = some (.retAddr 0)) (g1 : aL_get L 1 = some (.ref 0)) (g2 : aL_get L 2 = some (.ref 86)) (g3 : aL_get L 3 = some (.int (nI (6 * t)))) (hb : 6 * t + 6 ≤ (X 0).1) (hN : (X 0).1 ≤ 3072) (hI : Inv μ) (kk : ∀ μ2, Inv μ2 → WP X mL_law 1737 L [] μ2 Q) : WP X mL_law 290 L [] μ Q := by
  refine wp_aload_n (pc := 290) dL_law_290 (by first | rfl | assumption | (repeat first | assumption | rfl | refine aG_n ?_ rfl rfl)) ?_
  refine wp_eload_n (pc := 291) dL_law_291 (by first | rfl | assumption | (repeat first | assumption | rfl | refine aG_n ?_ rfl rfl)) ?_
  refine wp_iload_n (pc := 292) dL_law_292 (by first | rfl | assumption | (repeat first | assumption | rfl | refine aG_n ?_ rfl rfl)) ?_
  refine wp_iconst (pc := 293) (v := 1) dL_law_293 (by decide) ?_
  refine wp_iadd (pc := 294) dL_law_294 ?_
  refine wp_sald (pc := 295) dL_law_295 (show vp_in (nI (6 * t) + nI 1) (X 0).1 by rw [nI_add]; exact vp_in_nI (by omega) (by omega)) ?_
  refine wp_i2l (pc := 296) dL_law_296 ?_
  refine wp_bipush (pc := 297) (v := 32) dL_law_297 (by decide) ?_
  refine wp_lshl (pc := 299) dL_law_299 ?_
  refine wp_eload_n (pc := 300) dL_law_300 (by first | rfl | assumption | (repeat first | assumption | rfl | refine aG_n ?_ rfl rfl)) ?_
  refine wp_iload_n (pc := 301) dL_law_301 (by first | rfl | assumption | (repeat first | assumption | rfl | refine aG_n ?_ rfl rfl)) ?_
  refine wp_iconst (pc := 302) (v := 2) dL_law_302 (by decide) ?_
  refine wp_iadd (pc := 303) dL_law_303 ?_
  refine wp_sald (pc := 304) dL_law_304 (show vp_in (nI (6 * t) + nI 2) (X 0).1 by rw [nI_add]; exact vp_in_nI (by omega) (by omega)) ?_
  refine wp_i2l (pc := 305) dL_law_305 ?_
  refine wp_ldc2 (pc := 306) dL_law_306 cl_13_22 ?_
  refine wp_land (pc := 309) dL_law_309 ?_
  refine wp_lor (pc := 310) dL_law_310 ?_
  refine wp_eload_n (pc := 311) dL_law_311 (by first | rfl | assumption | (repeat first | assumption | rfl | refine aG_n ?_ rfl rfl)) ?_
  refine wp_iload_n (pc := 312) dL_law_312 (by first | rfl | assumption | (repeat first | assumption | rfl | refine aG_n ?_ rfl rfl)) ?_
  refine wp_iconst (pc := 313) (v := 3) dL_law_313 (by decide) ?_
  refine wp_iadd (pc := 314) dL_law_314 ?_
  refine wp_sald (pc := 315) dL_law_315 (show vp_in (nI (6 * t) + nI 3) (X 0).1 by rw [nI_add]; exact vp_in_nI (by omega) (by omega)) ?_
  refine wp_cV (pc := 316) dL_law_316 lk_13_24 rfl (by decide) rfl (by first | rfl | assumption | exact sh_house (by omega) | exact sh_wish (by omega) | exact sh_wor (by omega) | exact sh_bar (by omega) | exact sh_term (by omega) | exact sh_sheet (by omega) | exact sh_items (by omega) | exact sh_sums (by omega)) rfl rfl ((hJ _ _) _ _ _ hI (fun v9 μ9 hm => aK_i ?_))
  refine wp_aload_n (pc := 319) dL_law_319 (by first | rfl | assumption | (repeat first | assumption | rfl | refine aG_n ?_ rfl rfl)) ?_
  refine wp_eload_n (pc := 320) dL_law_320 (by first | rfl | assumption | (repeat first | assumption | rfl | refine aG_n ?_ rfl rfl)) ?_
  refine wp_iload_n (pc := 321) dL_law_321 (by first | rfl | assumption | (repeat first | assumption | rfl | refine aG_n ?_ rfl rfl)) ?_
  refine wp_iconst (pc := 322) (v := 1) dL_law_322 (by decide) ?_
  refine wp_iadd (pc := 323) dL_law_323 ?_
  refine wp_sald (pc := 324) dL_law_324 (show vp_in (nI (6 * t) + nI 1) (X 0).1 by rw [nI_add]; exact vp_in_nI (by omega) (by omega)) ?_
  refine wp_i2l (pc := 325) dL_law_325 ?_
  refine wp_bipush (pc := 326) (v := 32) dL_law_326 (by decide) ?_
  refine wp_lshl (pc := 328) dL_law_328 ?_
  refine wp_eload_n (pc := 329) dL_law_329 (by first | rfl | assumption | (repeat first | assumption | rfl | refine aG_n ?_ rfl rfl)) ?_
  refine wp_iload_n (pc := 330) dL_law_330 (by first | rfl | assumption | (repeat first | assumption | rfl | refine aG_n ?_ rfl rfl)) ?_
  refine wp_iconst (pc := 331) (v := 2) dL_law_331 (by decide) ?_
  refine wp_iadd (pc := 332) dL_law_332 ?_
  refine wp_sald (pc := 333) dL_law_333 (show vp_in (nI (6 * t) + nI 2) (X 0).1 by rw [nI_add]; exact vp_in_nI (by omega) (by omega)) ?_
  refine wp_i2l (pc := 334) dL_law_334 ?_
  refine wp_ldc2 (pc := 335) dL_law_335 cl_13_22 ?_
  refine wp_land (pc := 338) dL_law_338 ?_
  refine wp_lor (pc := 339) dL_law_339 ?_
  refine wp_eload_n (pc := 340) dL_law_340 (by first | rfl | assumption | (repeat first | assumption | rfl | refine aG_n ?_ rfl rfl)) ?_
  refine wp_iload_n (pc := 341) dL_law_341 (by first | rfl | assumption | (repeat first | assumption | rfl | refine aG_n ?_ rfl rfl)) ?_
  refine wp_iconst (pc := 342) (v := 3) dL_law_342 (by decide) ?_
  refine wp_iadd (pc := 343) dL_law_343 ?_
  refine wp_sald (pc := 344) dL_law_344 (show vp_in (nI (6 * t) + nI 3) (X 0).1 by rw [nI_add]; exact vp_in_nI (by omega) (by omega)) ?_
  refine wp_cV (pc := 345) dL_law_345 lk_13_28 rfl (by decide) rfl (by first | rfl | assumption | exact sh_house (by omega) | exact sh_wish (by omega) | exact sh_wor (by omega) | exact sh_bar (by omega) | exact sh_term (by omega) | exact sh_sheet (by omega) | exact sh_items (by omega) | exact sh_sums (by omega)) rfl rfl (hm _ (fun μ8 hI8 => aK_i ?_))
  refine wp_icmp_eq (pc := 348) (tgt := 1737) dL_law_348 rfl (fun _ => ?_) (fun q => absurd rfl q)
  exact kk _ hI8
theorem law_wish (hJ : ∀ (x0 : Int32), Jnt mX11_wish mX12_wish [.int x0]) (g0 : aL_get L 0 = some (.retAddr 0)) (g1 : aL_get L 1 = some (.ref 0)) (g2 : aL_get L 2 = some (.ref 86)) (g3 : aL_get L 3 = some (.int (nI (6 * t)))) (hb : 6 * t + 6 ≤ (X 0).1) (hN : (X 0).1 ≤ 3072) (hI : Inv μ) (kk : ∀ μ2, Inv μ2 → WP X mL_law 1737 L [] μ2 Q) : WP X mL_law 353 L [] μ Q := by
  refine wp_aload_n (pc := 353) dL_law_353 (by first | rfl | assumption | (repeat first | assumption | rfl | refine aG_n ?_ rfl rfl)) ?_
  refine wp_eload_n (pc := 354) dL_law_354 (by first | rfl | assumption | (repeat first | assumption | rfl | refine aG_n ?_ rfl rfl)) ?_
  refine wp_iload_n (pc := 355) dL_law_355 (by first | rfl | assumption | (repeat first | assumption | rfl | refine aG_n ?_ rfl rfl)) ?_
  refine wp_iconst (pc := 356) (v := 1) dL_law_356 (by decide) ?_
  refine wp_iadd (pc := 357) dL_law_357 ?_
  refine wp_sald (pc := 358) dL_law_358 (show vp_in (nI (6 * t) + nI 1) (X 0).1 by rw [nI_add]; exact vp_in_nI (by omega) (by omega)) ?_
  refine wp_cV (pc := 359) dL_law_359 lk_13_29 rfl (by decide) rfl (by first | rfl | assumption | exact sh_house (by omega) | exact sh_wish (by omega) | exact sh_wor (by omega) | exact sh_bar (by omega) | exact sh_term (by omega) | exact sh_sheet (by omega) | exact sh_items (by omega) | exact sh_sums (by omega)) rfl rfl ((hJ _) _ _ _ hI (fun v9 μ9 hm => aK_i ?_))
  refine wp_aload_n (pc := 362) dL_law_362 (by first | rfl | assumption | (repeat first | assumption | rfl | refine aG_n ?_ rfl rfl)) ?_
  refine wp_eload_n (pc := 363) dL_law_363 (by first | rfl | assumption | (repeat first | assumption | rfl | refine aG_n ?_ rfl rfl)) ?_
  refine wp_iload_n (pc := 364) dL_law_364 (by first | rfl | assumption | (repeat first | assumption | rfl | refine aG_n ?_ rfl rfl)) ?_
  refine wp_iconst (pc := 365) (v := 1) dL_law_365 (by decide) ?_
  refine wp_iadd (pc := 366) dL_law_366 ?_
  refine wp_sald (pc := 367) dL_law_367 (show vp_in (nI (6 * t) + nI 1) (X 0).1 by rw [nI_add]; exact vp_in_nI (by omega) (by omega)) ?_
  refine wp_cV (pc := 368) dL_law_368 lk_13_33 rfl (by decide) rfl (by first | rfl | assumption | exact sh_house (by omega) | exact sh_wish (by omega) | exact sh_wor (by omega) | exact sh_bar (by omega) | exact sh_term (by omega) | exact sh_sheet (by omega) | exact sh_items (by omega) | exact sh_sums (by omega)) rfl rfl (hm _ (fun μ8 hI8 => aK_i ?_))
  refine wp_icmp_eq (pc := 371) (tgt := 1737) dL_law_371 rfl (fun _ => ?_) (fun q => absurd rfl q)
  exact kk _ hI8
theorem law_worth (hJ : ∀ (x0 : Int32) (x1 : Int32), Jnt mX11_worth mX12_worth [.int x0, .int x1]) (g0 : aL_get L 0 = some (.retAddr 0)) (g1 : aL_get L 1 = some (.ref 0)) (g2 : aL_get L 2 = some (.ref 86)) (g3 : aL_get L 3 = some (.int (nI (6 * t)))) (hb : 6 * t + 6 ≤ (X 0).1) (hN : (X 0).1 ≤ 3072) (hI : Inv μ) (kk : ∀ μ2, Inv μ2 → WP X mL_law 1737 L [] μ2 Q) : WP X mL_law 376 L [] μ Q := by
  refine wp_aload_n (pc := 376) dL_law_376 (by first | rfl | assumption | (repeat first | assumption | rfl | refine aG_n ?_ rfl rfl)) ?_
  refine wp_eload_n (pc := 377) dL_law_377 (by first | rfl | assumption | (repeat first | assumption | rfl | refine aG_n ?_ rfl rfl)) ?_
  refine wp_iload_n (pc := 378) dL_law_378 (by first | rfl | assumption | (repeat first | assumption | rfl | refine aG_n ?_ rfl rfl)) ?_
  refine wp_iconst (pc := 379) (v := 1) dL_law_379 (by decide) ?_
  refine wp_iadd (pc := 380) dL_law_380 ?_
  refine wp_sald (pc := 381) dL_law_381 (show vp_in (nI (6 * t) + nI 1) (X 0).1 by rw [nI_add]; exact vp_in_nI (by omega) (by omega)) ?_
  refine wp_eload_n (pc := 382) dL_law_382 (by first | rfl | assumption | (repeat first | assumption | rfl | refine aG_n ?_ rfl rfl)) ?_
  refine wp_iload_n (pc := 383) dL_law_383 (by first | rfl | assumption | (repeat first | assumption | rfl | refine aG_n ?_ rfl rfl)) ?_
  refine wp_iconst (pc := 384) (v := 2) dL_law_384 (by decide) ?_
  refine wp_iadd (pc := 385) dL_law_385 ?_
  refine wp_sald (pc := 386) dL_law_386 (show vp_in (nI (6 * t) + nI 2) (X 0).1 by rw [nI_add]; exact vp_in_nI (by omega) (by omega)) ?_
  refine wp_cV (pc := 387) dL_law_387 lk_13_34 rfl (by decide) rfl (by first | rfl | assumption | exact sh_house (by omega) | exact sh_wish (by omega) | exact sh_wor (by omega) | exact sh_bar (by omega) | exact sh_term (by omega) | exact sh_sheet (by omega) | exact sh_items (by omega) | exact sh_sums (by omega)) rfl rfl ((hJ _ _) _ _ _ hI (fun v9 μ9 hm => aK_i ?_))
  refine wp_aload_n (pc := 390) dL_law_390 (by first | rfl | assumption | (repeat first | assumption | rfl | refine aG_n ?_ rfl rfl)) ?_
  refine wp_eload_n (pc := 391) dL_law_391 (by first | rfl | assumption | (repeat first | assumption | rfl | refine aG_n ?_ rfl rfl)) ?_
  refine wp_iload_n (pc := 392) dL_law_392 (by first | rfl | assumption | (repeat first | assumption | rfl | refine aG_n ?_ rfl rfl)) ?_
  refine wp_iconst (pc := 393) (v := 1) dL_law_393 (by decide) ?_
  refine wp_iadd (pc := 394) dL_law_394 ?_
  refine wp_sald (pc := 395) dL_law_395 (show vp_in (nI (6 * t) + nI 1) (X 0).1 by rw [nI_add]; exact vp_in_nI (by omega) (by omega)) ?_
  refine wp_eload_n (pc := 396) dL_law_396 (by first | rfl | assumption | (repeat first | assumption | rfl | refine aG_n ?_ rfl rfl)) ?_
  refine wp_iload_n (pc := 397) dL_law_397 (by first | rfl | assumption | (repeat first | assumption | rfl | refine aG_n ?_ rfl rfl)) ?_
  refine wp_iconst (pc := 398) (v := 2) dL_law_398 (by decide) ?_
  refine wp_iadd (pc := 399) dL_law_399 ?_
  refine wp_sald (pc := 400) dL_law_400 (show vp_in (nI (6 * t) + nI 2) (X 0).1 by rw [nI_add]; exact vp_in_nI (by omega) (by omega)) ?_
  refine wp_cV (pc := 401) dL_law_401 lk_13_37 rfl (by decide) rfl (by first | rfl | assumption | exact sh_house (by omega) | exact sh_wish (by omega) | exact sh_wor (by omega) | exact sh_bar (by omega) | exact sh_term (by omega) | exact sh_sheet (by omega) | exact sh_items (by omega) | exact sh_sums (by omega)) rfl rfl (hm _ (fun μ8 hI8 => aK_i ?_))
  refine wp_icmp_eq (pc := 404) (tgt := 1737) dL_law_404 rfl (fun _ => ?_) (fun q => absurd rfl q)
  exact kk _ hI8
theorem law_barred (hJ : ∀ (x0 : Int32) (x1 : Int32), Jnt mX11_barred mX12_barred [.int x0, .int x1]) (g0 : aL_get L 0 = some (.retAddr 0)) (g1 : aL_get L 1 = some (.ref 0)) (g2 : aL_get L 2 = some (.ref 86)) (g3 : aL_get L 3 = some (.int (nI (6 * t)))) (hb : 6 * t + 6 ≤ (X 0).1) (hN : (X 0).1 ≤ 3072) (hI : Inv μ) (kk : ∀ μ2, Inv μ2 → WP X mL_law 1737 L [] μ2 Q) : WP X mL_law 409 L [] μ Q := by
  refine wp_aload_n (pc := 409) dL_law_409 (by first | rfl | assumption | (repeat first | assumption | rfl | refine aG_n ?_ rfl rfl)) ?_
  refine wp_eload_n (pc := 410) dL_law_410 (by first | rfl | assumption | (repeat first | assumption | rfl | refine aG_n ?_ rfl rfl)) ?_
  refine wp_iload_n (pc := 411) dL_law_411 (by first | rfl | assumption | (repeat first | assumption | rfl | refine aG_n ?_ rfl rfl)) ?_
  refine wp_iconst (pc := 412) (v := 1) dL_law_412 (by decide) ?_
  refine wp_iadd (pc := 413) dL_law_413 ?_
  refine wp_sald (pc := 414) dL_law_414 (show vp_in (nI (6 * t) + nI 1) (X 0).1 by rw [nI_add]; exact vp_in_nI (by omega) (by omega)) ?_
  refine wp_eload_n (pc := 415) dL_law_415 (by first | rfl | assumption | (repeat first | assumption | rfl | refine aG_n ?_ rfl rfl)) ?_
  refine wp_iload_n (pc := 416) dL_law_416 (by first | rfl | assumption | (repeat first | assumption | rfl | refine aG_n ?_ rfl rfl)) ?_
  refine wp_iconst (pc := 417) (v := 2) dL_law_417 (by decide) ?_
  refine wp_iadd (pc := 418) dL_law_418 ?_
  refine wp_sald (pc := 419) dL_law_419 (show vp_in (nI (6 * t) + nI 2) (X 0).1 by rw [nI_add]; exact vp_in_nI (by omega) (by omega)) ?_
  refine wp_cV (pc := 420) dL_law_420 lk_13_38 rfl (by decide) rfl (by first | rfl | assumption | exact sh_house (by omega) | exact sh_wish (by omega) | exact sh_wor (by omega) | exact sh_bar (by omega) | exact sh_term (by omega) | exact sh_sheet (by omega) | exact sh_items (by omega) | exact sh_sums (by omega)) rfl rfl ((hJ _ _) _ _ _ hI (fun v9 μ9 hm => aK_i ?_))
  refine wp_aload_n (pc := 423) dL_law_423 (by first | rfl | assumption | (repeat first | assumption | rfl | refine aG_n ?_ rfl rfl)) ?_
  refine wp_eload_n (pc := 424) dL_law_424 (by first | rfl | assumption | (repeat first | assumption | rfl | refine aG_n ?_ rfl rfl)) ?_
  refine wp_iload_n (pc := 425) dL_law_425 (by first | rfl | assumption | (repeat first | assumption | rfl | refine aG_n ?_ rfl rfl)) ?_
  refine wp_iconst (pc := 426) (v := 1) dL_law_426 (by decide) ?_
  refine wp_iadd (pc := 427) dL_law_427 ?_
  refine wp_sald (pc := 428) dL_law_428 (show vp_in (nI (6 * t) + nI 1) (X 0).1 by rw [nI_add]; exact vp_in_nI (by omega) (by omega)) ?_
  refine wp_eload_n (pc := 429) dL_law_429 (by first | rfl | assumption | (repeat first | assumption | rfl | refine aG_n ?_ rfl rfl)) ?_
  refine wp_iload_n (pc := 430) dL_law_430 (by first | rfl | assumption | (repeat first | assumption | rfl | refine aG_n ?_ rfl rfl)) ?_
  refine wp_iconst (pc := 431) (v := 2) dL_law_431 (by decide) ?_
  refine wp_iadd (pc := 432) dL_law_432 ?_
  refine wp_sald (pc := 433) dL_law_433 (show vp_in (nI (6 * t) + nI 2) (X 0).1 by rw [nI_add]; exact vp_in_nI (by omega) (by omega)) ?_
  refine wp_cV (pc := 434) dL_law_434 lk_13_41 rfl (by decide) rfl (by first | rfl | assumption | exact sh_house (by omega) | exact sh_wish (by omega) | exact sh_wor (by omega) | exact sh_bar (by omega) | exact sh_term (by omega) | exact sh_sheet (by omega) | exact sh_items (by omega) | exact sh_sums (by omega)) rfl rfl (hm _ (fun μ8 hI8 => aK_i ?_))
  refine wp_icmp_eq (pc := 437) (tgt := 1737) dL_law_437 rfl (fun _ => ?_) (fun q => absurd rfl q)
  exact kk _ hI8
theorem law_told (hJ : ∀ (x0 : Int32) (x1 : Int32), Jnt mX11_told mX12_told [.int x0, .int x1]) (g0 : aL_get L 0 = some (.retAddr 0)) (g1 : aL_get L 1 = some (.ref 0)) (g2 : aL_get L 2 = some (.ref 86)) (g3 : aL_get L 3 = some (.int (nI (6 * t)))) (hb : 6 * t + 6 ≤ (X 0).1) (hN : (X 0).1 ≤ 3072) (hI : Inv μ) (kk : ∀ μ2, Inv μ2 → WP X mL_law 1737 L [] μ2 Q) : WP X mL_law 442 L [] μ Q := by
  refine wp_aload_n (pc := 442) dL_law_442 (by first | rfl | assumption | (repeat first | assumption | rfl | refine aG_n ?_ rfl rfl)) ?_
  refine wp_eload_n (pc := 443) dL_law_443 (by first | rfl | assumption | (repeat first | assumption | rfl | refine aG_n ?_ rfl rfl)) ?_
  refine wp_iload_n (pc := 444) dL_law_444 (by first | rfl | assumption | (repeat first | assumption | rfl | refine aG_n ?_ rfl rfl)) ?_
  refine wp_iconst (pc := 445) (v := 1) dL_law_445 (by decide) ?_
  refine wp_iadd (pc := 446) dL_law_446 ?_
  refine wp_sald (pc := 447) dL_law_447 (show vp_in (nI (6 * t) + nI 1) (X 0).1 by rw [nI_add]; exact vp_in_nI (by omega) (by omega)) ?_
  refine wp_eload_n (pc := 448) dL_law_448 (by first | rfl | assumption | (repeat first | assumption | rfl | refine aG_n ?_ rfl rfl)) ?_
  refine wp_iload_n (pc := 449) dL_law_449 (by first | rfl | assumption | (repeat first | assumption | rfl | refine aG_n ?_ rfl rfl)) ?_
  refine wp_iconst (pc := 450) (v := 2) dL_law_450 (by decide) ?_
  refine wp_iadd (pc := 451) dL_law_451 ?_
  refine wp_sald (pc := 452) dL_law_452 (show vp_in (nI (6 * t) + nI 2) (X 0).1 by rw [nI_add]; exact vp_in_nI (by omega) (by omega)) ?_
  refine wp_cV (pc := 453) dL_law_453 lk_13_42 rfl (by decide) rfl (by first | rfl | assumption | exact sh_house (by omega) | exact sh_wish (by omega) | exact sh_wor (by omega) | exact sh_bar (by omega) | exact sh_term (by omega) | exact sh_sheet (by omega) | exact sh_items (by omega) | exact sh_sums (by omega)) rfl rfl ((hJ _ _) _ _ _ hI (fun v9 μ9 hm => aK_i ?_))
  refine wp_aload_n (pc := 456) dL_law_456 (by first | rfl | assumption | (repeat first | assumption | rfl | refine aG_n ?_ rfl rfl)) ?_
  refine wp_eload_n (pc := 457) dL_law_457 (by first | rfl | assumption | (repeat first | assumption | rfl | refine aG_n ?_ rfl rfl)) ?_
  refine wp_iload_n (pc := 458) dL_law_458 (by first | rfl | assumption | (repeat first | assumption | rfl | refine aG_n ?_ rfl rfl)) ?_
  refine wp_iconst (pc := 459) (v := 1) dL_law_459 (by decide) ?_
  refine wp_iadd (pc := 460) dL_law_460 ?_
  refine wp_sald (pc := 461) dL_law_461 (show vp_in (nI (6 * t) + nI 1) (X 0).1 by rw [nI_add]; exact vp_in_nI (by omega) (by omega)) ?_
  refine wp_eload_n (pc := 462) dL_law_462 (by first | rfl | assumption | (repeat first | assumption | rfl | refine aG_n ?_ rfl rfl)) ?_
  refine wp_iload_n (pc := 463) dL_law_463 (by first | rfl | assumption | (repeat first | assumption | rfl | refine aG_n ?_ rfl rfl)) ?_
  refine wp_iconst (pc := 464) (v := 2) dL_law_464 (by decide) ?_
  refine wp_iadd (pc := 465) dL_law_465 ?_
  refine wp_sald (pc := 466) dL_law_466 (show vp_in (nI (6 * t) + nI 2) (X 0).1 by rw [nI_add]; exact vp_in_nI (by omega) (by omega)) ?_
  refine wp_cV (pc := 467) dL_law_467 lk_13_45 rfl (by decide) rfl (by first | rfl | assumption | exact sh_house (by omega) | exact sh_wish (by omega) | exact sh_wor (by omega) | exact sh_bar (by omega) | exact sh_term (by omega) | exact sh_sheet (by omega) | exact sh_items (by omega) | exact sh_sums (by omega)) rfl rfl (hm _ (fun μ8 hI8 => aK_i ?_))
  refine wp_icmp_eq (pc := 470) (tgt := 1737) dL_law_470 rfl (fun _ => ?_) (fun q => absurd rfl q)
  exact kk _ hI8
theorem law_set (hJ : ∀ (x0 : Int32) (x1 : Int32) (x2 : Int32), Jnt mX11_set mX12_set [.int x0, .int x1, .int x2]) (g0 : aL_get L 0 = some (.retAddr 0)) (g1 : aL_get L 1 = some (.ref 0)) (g2 : aL_get L 2 = some (.ref 86)) (g3 : aL_get L 3 = some (.int (nI (6 * t)))) (hb : 6 * t + 6 ≤ (X 0).1) (hN : (X 0).1 ≤ 3072) (hI : Inv μ) (kk : ∀ μ2, Inv μ2 → WP X mL_law 1737 L [] μ2 Q) : WP X mL_law 475 L [] μ Q := by
  refine wp_aload_n (pc := 475) dL_law_475 (by first | rfl | assumption | (repeat first | assumption | rfl | refine aG_n ?_ rfl rfl)) ?_
  refine wp_eload_n (pc := 476) dL_law_476 (by first | rfl | assumption | (repeat first | assumption | rfl | refine aG_n ?_ rfl rfl)) ?_
  refine wp_iload_n (pc := 477) dL_law_477 (by first | rfl | assumption | (repeat first | assumption | rfl | refine aG_n ?_ rfl rfl)) ?_
  refine wp_iconst (pc := 478) (v := 1) dL_law_478 (by decide) ?_
  refine wp_iadd (pc := 479) dL_law_479 ?_
  refine wp_sald (pc := 480) dL_law_480 (show vp_in (nI (6 * t) + nI 1) (X 0).1 by rw [nI_add]; exact vp_in_nI (by omega) (by omega)) ?_
  refine wp_eload_n (pc := 481) dL_law_481 (by first | rfl | assumption | (repeat first | assumption | rfl | refine aG_n ?_ rfl rfl)) ?_
  refine wp_iload_n (pc := 482) dL_law_482 (by first | rfl | assumption | (repeat first | assumption | rfl | refine aG_n ?_ rfl rfl)) ?_
  refine wp_iconst (pc := 483) (v := 2) dL_law_483 (by decide) ?_
  refine wp_iadd (pc := 484) dL_law_484 ?_
  refine wp_sald (pc := 485) dL_law_485 (show vp_in (nI (6 * t) + nI 2) (X 0).1 by rw [nI_add]; exact vp_in_nI (by omega) (by omega)) ?_
  refine wp_eload_n (pc := 486) dL_law_486 (by first | rfl | assumption | (repeat first | assumption | rfl | refine aG_n ?_ rfl rfl)) ?_
  refine wp_iload_n (pc := 487) dL_law_487 (by first | rfl | assumption | (repeat first | assumption | rfl | refine aG_n ?_ rfl rfl)) ?_
  refine wp_iconst (pc := 488) (v := 3) dL_law_488 (by decide) ?_
  refine wp_iadd (pc := 489) dL_law_489 ?_
  refine wp_sald (pc := 490) dL_law_490 (show vp_in (nI (6 * t) + nI 3) (X 0).1 by rw [nI_add]; exact vp_in_nI (by omega) (by omega)) ?_
  refine wp_cV (pc := 491) dL_law_491 lk_13_46 rfl (by decide) rfl (by first | rfl | assumption | exact sh_house (by omega) | exact sh_wish (by omega) | exact sh_wor (by omega) | exact sh_bar (by omega) | exact sh_term (by omega) | exact sh_sheet (by omega) | exact sh_items (by omega) | exact sh_sums (by omega)) rfl rfl ((hJ _ _ _) _ _ _ hI (fun v9 μ9 hm => aK_i ?_))
  refine wp_aload_n (pc := 494) dL_law_494 (by first | rfl | assumption | (repeat first | assumption | rfl | refine aG_n ?_ rfl rfl)) ?_
  refine wp_eload_n (pc := 495) dL_law_495 (by first | rfl | assumption | (repeat first | assumption | rfl | refine aG_n ?_ rfl rfl)) ?_
  refine wp_iload_n (pc := 496) dL_law_496 (by first | rfl | assumption | (repeat first | assumption | rfl | refine aG_n ?_ rfl rfl)) ?_
  refine wp_iconst (pc := 497) (v := 1) dL_law_497 (by decide) ?_
  refine wp_iadd (pc := 498) dL_law_498 ?_
  refine wp_sald (pc := 499) dL_law_499 (show vp_in (nI (6 * t) + nI 1) (X 0).1 by rw [nI_add]; exact vp_in_nI (by omega) (by omega)) ?_
  refine wp_eload_n (pc := 500) dL_law_500 (by first | rfl | assumption | (repeat first | assumption | rfl | refine aG_n ?_ rfl rfl)) ?_
  refine wp_iload_n (pc := 501) dL_law_501 (by first | rfl | assumption | (repeat first | assumption | rfl | refine aG_n ?_ rfl rfl)) ?_
  refine wp_iconst (pc := 502) (v := 2) dL_law_502 (by decide) ?_
  refine wp_iadd (pc := 503) dL_law_503 ?_
  refine wp_sald (pc := 504) dL_law_504 (show vp_in (nI (6 * t) + nI 2) (X 0).1 by rw [nI_add]; exact vp_in_nI (by omega) (by omega)) ?_
  refine wp_eload_n (pc := 505) dL_law_505 (by first | rfl | assumption | (repeat first | assumption | rfl | refine aG_n ?_ rfl rfl)) ?_
  refine wp_iload_n (pc := 506) dL_law_506 (by first | rfl | assumption | (repeat first | assumption | rfl | refine aG_n ?_ rfl rfl)) ?_
  refine wp_iconst (pc := 507) (v := 3) dL_law_507 (by decide) ?_
  refine wp_iadd (pc := 508) dL_law_508 ?_
  refine wp_sald (pc := 509) dL_law_509 (show vp_in (nI (6 * t) + nI 3) (X 0).1 by rw [nI_add]; exact vp_in_nI (by omega) (by omega)) ?_
  refine wp_cV (pc := 510) dL_law_510 lk_13_50 rfl (by decide) rfl (by first | rfl | assumption | exact sh_house (by omega) | exact sh_wish (by omega) | exact sh_wor (by omega) | exact sh_bar (by omega) | exact sh_term (by omega) | exact sh_sheet (by omega) | exact sh_items (by omega) | exact sh_sums (by omega)) rfl rfl (hm _ (fun μ8 hI8 => aK_i ?_))
  refine wp_icmp_eq (pc := 513) (tgt := 1737) dL_law_513 rfl (fun _ => ?_) (fun q => absurd rfl q)
  exact kk _ hI8
theorem law_gain (hJ : ∀ (x0 : Int32) (x1 : Int32) (x2 : Int32) (x3 : Int32) (x4 : Int32), Jnt mX11_gain mX12_gain [.int x0, .int x1, .int x2, .int x3, .int x4]) (g0 : aL_get L 0 = some (.retAddr 0)) (g1 : aL_get L 1 = some (.ref 0)) (g2 : aL_get L 2 = some (.ref 86)) (g3 : aL_get L 3 = some (.int (nI (6 * t)))) (hb : 6 * t + 6 ≤ (X 0).1) (hN : (X 0).1 ≤ 3072) (hI : Inv μ) (kk : ∀ μ2, Inv μ2 → WP X mL_law 1737 L [] μ2 Q) : WP X mL_law 518 L [] μ Q := by
  refine wp_aload_n (pc := 518) dL_law_518 (by first | rfl | assumption | (repeat first | assumption | rfl | refine aG_n ?_ rfl rfl)) ?_
  refine wp_eload_n (pc := 519) dL_law_519 (by first | rfl | assumption | (repeat first | assumption | rfl | refine aG_n ?_ rfl rfl)) ?_
  refine wp_iload_n (pc := 520) dL_law_520 (by first | rfl | assumption | (repeat first | assumption | rfl | refine aG_n ?_ rfl rfl)) ?_
  refine wp_iconst (pc := 521) (v := 1) dL_law_521 (by decide) ?_
  refine wp_iadd (pc := 522) dL_law_522 ?_
  refine wp_sald (pc := 523) dL_law_523 (show vp_in (nI (6 * t) + nI 1) (X 0).1 by rw [nI_add]; exact vp_in_nI (by omega) (by omega)) ?_
  refine wp_eload_n (pc := 524) dL_law_524 (by first | rfl | assumption | (repeat first | assumption | rfl | refine aG_n ?_ rfl rfl)) ?_
  refine wp_iload_n (pc := 525) dL_law_525 (by first | rfl | assumption | (repeat first | assumption | rfl | refine aG_n ?_ rfl rfl)) ?_
  refine wp_iconst (pc := 526) (v := 2) dL_law_526 (by decide) ?_
  refine wp_iadd (pc := 527) dL_law_527 ?_
  refine wp_sald (pc := 528) dL_law_528 (show vp_in (nI (6 * t) + nI 2) (X 0).1 by rw [nI_add]; exact vp_in_nI (by omega) (by omega)) ?_
  refine wp_eload_n (pc := 529) dL_law_529 (by first | rfl | assumption | (repeat first | assumption | rfl | refine aG_n ?_ rfl rfl)) ?_
  refine wp_iload_n (pc := 530) dL_law_530 (by first | rfl | assumption | (repeat first | assumption | rfl | refine aG_n ?_ rfl rfl)) ?_
  refine wp_iconst (pc := 531) (v := 3) dL_law_531 (by decide) ?_
  refine wp_iadd (pc := 532) dL_law_532 ?_
  refine wp_sald (pc := 533) dL_law_533 (show vp_in (nI (6 * t) + nI 3) (X 0).1 by rw [nI_add]; exact vp_in_nI (by omega) (by omega)) ?_
  refine wp_eload_n (pc := 534) dL_law_534 (by first | rfl | assumption | (repeat first | assumption | rfl | refine aG_n ?_ rfl rfl)) ?_
  refine wp_iload_n (pc := 535) dL_law_535 (by first | rfl | assumption | (repeat first | assumption | rfl | refine aG_n ?_ rfl rfl)) ?_
  refine wp_iconst (pc := 536) (v := 4) dL_law_536 (by decide) ?_
  refine wp_iadd (pc := 537) dL_law_537 ?_
  refine wp_sald (pc := 538) dL_law_538 (show vp_in (nI (6 * t) + nI 4) (X 0).1 by rw [nI_add]; exact vp_in_nI (by omega) (by omega)) ?_
  refine wp_eload_n (pc := 539) dL_law_539 (by first | rfl | assumption | (repeat first | assumption | rfl | refine aG_n ?_ rfl rfl)) ?_
  refine wp_iload_n (pc := 540) dL_law_540 (by first | rfl | assumption | (repeat first | assumption | rfl | refine aG_n ?_ rfl rfl)) ?_
  refine wp_iconst (pc := 541) (v := 5) dL_law_541 (by decide) ?_
  refine wp_iadd (pc := 542) dL_law_542 ?_
  refine wp_sald (pc := 543) dL_law_543 (show vp_in (nI (6 * t) + nI 5) (X 0).1 by rw [nI_add]; exact vp_in_nI (by omega) (by omega)) ?_
  refine wp_cV (pc := 544) dL_law_544 lk_13_51 rfl (by decide) rfl (by first | rfl | assumption | exact sh_house (by omega) | exact sh_wish (by omega) | exact sh_wor (by omega) | exact sh_bar (by omega) | exact sh_term (by omega) | exact sh_sheet (by omega) | exact sh_items (by omega) | exact sh_sums (by omega)) rfl rfl ((hJ _ _ _ _ _) _ _ _ hI (fun v9 μ9 hm => aK_i ?_))
  refine wp_aload_n (pc := 547) dL_law_547 (by first | rfl | assumption | (repeat first | assumption | rfl | refine aG_n ?_ rfl rfl)) ?_
  refine wp_eload_n (pc := 548) dL_law_548 (by first | rfl | assumption | (repeat first | assumption | rfl | refine aG_n ?_ rfl rfl)) ?_
  refine wp_iload_n (pc := 549) dL_law_549 (by first | rfl | assumption | (repeat first | assumption | rfl | refine aG_n ?_ rfl rfl)) ?_
  refine wp_iconst (pc := 550) (v := 1) dL_law_550 (by decide) ?_
  refine wp_iadd (pc := 551) dL_law_551 ?_
  refine wp_sald (pc := 552) dL_law_552 (show vp_in (nI (6 * t) + nI 1) (X 0).1 by rw [nI_add]; exact vp_in_nI (by omega) (by omega)) ?_
  refine wp_eload_n (pc := 553) dL_law_553 (by first | rfl | assumption | (repeat first | assumption | rfl | refine aG_n ?_ rfl rfl)) ?_
  refine wp_iload_n (pc := 554) dL_law_554 (by first | rfl | assumption | (repeat first | assumption | rfl | refine aG_n ?_ rfl rfl)) ?_
  refine wp_iconst (pc := 555) (v := 2) dL_law_555 (by decide) ?_
  refine wp_iadd (pc := 556) dL_law_556 ?_
  refine wp_sald (pc := 557) dL_law_557 (show vp_in (nI (6 * t) + nI 2) (X 0).1 by rw [nI_add]; exact vp_in_nI (by omega) (by omega)) ?_
  refine wp_eload_n (pc := 558) dL_law_558 (by first | rfl | assumption | (repeat first | assumption | rfl | refine aG_n ?_ rfl rfl)) ?_
  refine wp_iload_n (pc := 559) dL_law_559 (by first | rfl | assumption | (repeat first | assumption | rfl | refine aG_n ?_ rfl rfl)) ?_
  refine wp_iconst (pc := 560) (v := 3) dL_law_560 (by decide) ?_
  refine wp_iadd (pc := 561) dL_law_561 ?_
  refine wp_sald (pc := 562) dL_law_562 (show vp_in (nI (6 * t) + nI 3) (X 0).1 by rw [nI_add]; exact vp_in_nI (by omega) (by omega)) ?_
  refine wp_eload_n (pc := 563) dL_law_563 (by first | rfl | assumption | (repeat first | assumption | rfl | refine aG_n ?_ rfl rfl)) ?_
  refine wp_iload_n (pc := 564) dL_law_564 (by first | rfl | assumption | (repeat first | assumption | rfl | refine aG_n ?_ rfl rfl)) ?_
  refine wp_iconst (pc := 565) (v := 4) dL_law_565 (by decide) ?_
  refine wp_iadd (pc := 566) dL_law_566 ?_
  refine wp_sald (pc := 567) dL_law_567 (show vp_in (nI (6 * t) + nI 4) (X 0).1 by rw [nI_add]; exact vp_in_nI (by omega) (by omega)) ?_
  refine wp_eload_n (pc := 568) dL_law_568 (by first | rfl | assumption | (repeat first | assumption | rfl | refine aG_n ?_ rfl rfl)) ?_
  refine wp_iload_n (pc := 569) dL_law_569 (by first | rfl | assumption | (repeat first | assumption | rfl | refine aG_n ?_ rfl rfl)) ?_
  refine wp_iconst (pc := 570) (v := 5) dL_law_570 (by decide) ?_
  refine wp_iadd (pc := 571) dL_law_571 ?_
  refine wp_sald (pc := 572) dL_law_572 (show vp_in (nI (6 * t) + nI 5) (X 0).1 by rw [nI_add]; exact vp_in_nI (by omega) (by omega)) ?_
  refine wp_cV (pc := 573) dL_law_573 lk_13_55 rfl (by decide) rfl (by first | rfl | assumption | exact sh_house (by omega) | exact sh_wish (by omega) | exact sh_wor (by omega) | exact sh_bar (by omega) | exact sh_term (by omega) | exact sh_sheet (by omega) | exact sh_items (by omega) | exact sh_sums (by omega)) rfl rfl (hm _ (fun μ8 hI8 => aK_i ?_))
  refine wp_icmp_eq (pc := 576) (tgt := 1737) dL_law_576 rfl (fun _ => ?_) (fun q => absurd rfl q)
  exact kk _ hI8
theorem law_good (hJ : ∀ (x0 : Int32) (x1 : Int32) (x2 : Int32) (x3 : Int32), Jnt mX11_good mX12_good [.int x0, .int x1, .int x2, .int x3]) (g0 : aL_get L 0 = some (.retAddr 0)) (g1 : aL_get L 1 = some (.ref 0)) (g2 : aL_get L 2 = some (.ref 86)) (g3 : aL_get L 3 = some (.int (nI (6 * t)))) (hb : 6 * t + 6 ≤ (X 0).1) (hN : (X 0).1 ≤ 3072) (hI : Inv μ) (kk : ∀ μ2, Inv μ2 → WP X mL_law 1737 L [] μ2 Q) : WP X mL_law 581 L [] μ Q := by
  refine wp_aload_n (pc := 581) dL_law_581 (by first | rfl | assumption | (repeat first | assumption | rfl | refine aG_n ?_ rfl rfl)) ?_
  refine wp_eload_n (pc := 582) dL_law_582 (by first | rfl | assumption | (repeat first | assumption | rfl | refine aG_n ?_ rfl rfl)) ?_
  refine wp_iload_n (pc := 583) dL_law_583 (by first | rfl | assumption | (repeat first | assumption | rfl | refine aG_n ?_ rfl rfl)) ?_
  refine wp_iconst (pc := 584) (v := 1) dL_law_584 (by decide) ?_
  refine wp_iadd (pc := 585) dL_law_585 ?_
  refine wp_sald (pc := 586) dL_law_586 (show vp_in (nI (6 * t) + nI 1) (X 0).1 by rw [nI_add]; exact vp_in_nI (by omega) (by omega)) ?_
  refine wp_eload_n (pc := 587) dL_law_587 (by first | rfl | assumption | (repeat first | assumption | rfl | refine aG_n ?_ rfl rfl)) ?_
  refine wp_iload_n (pc := 588) dL_law_588 (by first | rfl | assumption | (repeat first | assumption | rfl | refine aG_n ?_ rfl rfl)) ?_
  refine wp_iconst (pc := 589) (v := 2) dL_law_589 (by decide) ?_
  refine wp_iadd (pc := 590) dL_law_590 ?_
  refine wp_sald (pc := 591) dL_law_591 (show vp_in (nI (6 * t) + nI 2) (X 0).1 by rw [nI_add]; exact vp_in_nI (by omega) (by omega)) ?_
  refine wp_eload_n (pc := 592) dL_law_592 (by first | rfl | assumption | (repeat first | assumption | rfl | refine aG_n ?_ rfl rfl)) ?_
  refine wp_iload_n (pc := 593) dL_law_593 (by first | rfl | assumption | (repeat first | assumption | rfl | refine aG_n ?_ rfl rfl)) ?_
  refine wp_iconst (pc := 594) (v := 3) dL_law_594 (by decide) ?_
  refine wp_iadd (pc := 595) dL_law_595 ?_
  refine wp_sald (pc := 596) dL_law_596 (show vp_in (nI (6 * t) + nI 3) (X 0).1 by rw [nI_add]; exact vp_in_nI (by omega) (by omega)) ?_
  refine wp_eload_n (pc := 597) dL_law_597 (by first | rfl | assumption | (repeat first | assumption | rfl | refine aG_n ?_ rfl rfl)) ?_
  refine wp_iload_n (pc := 598) dL_law_598 (by first | rfl | assumption | (repeat first | assumption | rfl | refine aG_n ?_ rfl rfl)) ?_
  refine wp_iconst (pc := 599) (v := 4) dL_law_599 (by decide) ?_
  refine wp_iadd (pc := 600) dL_law_600 ?_
  refine wp_sald (pc := 601) dL_law_601 (show vp_in (nI (6 * t) + nI 4) (X 0).1 by rw [nI_add]; exact vp_in_nI (by omega) (by omega)) ?_
  refine wp_cV (pc := 602) dL_law_602 lk_13_56 rfl (by decide) rfl (by first | rfl | assumption | exact sh_house (by omega) | exact sh_wish (by omega) | exact sh_wor (by omega) | exact sh_bar (by omega) | exact sh_term (by omega) | exact sh_sheet (by omega) | exact sh_items (by omega) | exact sh_sums (by omega)) rfl rfl ((hJ _ _ _ _) _ _ _ hI (fun v9 μ9 hm => aK_i ?_))
  refine wp_aload_n (pc := 605) dL_law_605 (by first | rfl | assumption | (repeat first | assumption | rfl | refine aG_n ?_ rfl rfl)) ?_
  refine wp_eload_n (pc := 606) dL_law_606 (by first | rfl | assumption | (repeat first | assumption | rfl | refine aG_n ?_ rfl rfl)) ?_
  refine wp_iload_n (pc := 607) dL_law_607 (by first | rfl | assumption | (repeat first | assumption | rfl | refine aG_n ?_ rfl rfl)) ?_
  refine wp_iconst (pc := 608) (v := 1) dL_law_608 (by decide) ?_
  refine wp_iadd (pc := 609) dL_law_609 ?_
  refine wp_sald (pc := 610) dL_law_610 (show vp_in (nI (6 * t) + nI 1) (X 0).1 by rw [nI_add]; exact vp_in_nI (by omega) (by omega)) ?_
  refine wp_eload_n (pc := 611) dL_law_611 (by first | rfl | assumption | (repeat first | assumption | rfl | refine aG_n ?_ rfl rfl)) ?_
  refine wp_iload_n (pc := 612) dL_law_612 (by first | rfl | assumption | (repeat first | assumption | rfl | refine aG_n ?_ rfl rfl)) ?_
  refine wp_iconst (pc := 613) (v := 2) dL_law_613 (by decide) ?_
  refine wp_iadd (pc := 614) dL_law_614 ?_
  refine wp_sald (pc := 615) dL_law_615 (show vp_in (nI (6 * t) + nI 2) (X 0).1 by rw [nI_add]; exact vp_in_nI (by omega) (by omega)) ?_
  refine wp_eload_n (pc := 616) dL_law_616 (by first | rfl | assumption | (repeat first | assumption | rfl | refine aG_n ?_ rfl rfl)) ?_
  refine wp_iload_n (pc := 617) dL_law_617 (by first | rfl | assumption | (repeat first | assumption | rfl | refine aG_n ?_ rfl rfl)) ?_
  refine wp_iconst (pc := 618) (v := 3) dL_law_618 (by decide) ?_
  refine wp_iadd (pc := 619) dL_law_619 ?_
  refine wp_sald (pc := 620) dL_law_620 (show vp_in (nI (6 * t) + nI 3) (X 0).1 by rw [nI_add]; exact vp_in_nI (by omega) (by omega)) ?_
  refine wp_eload_n (pc := 621) dL_law_621 (by first | rfl | assumption | (repeat first | assumption | rfl | refine aG_n ?_ rfl rfl)) ?_
  refine wp_iload_n (pc := 622) dL_law_622 (by first | rfl | assumption | (repeat first | assumption | rfl | refine aG_n ?_ rfl rfl)) ?_
  refine wp_iconst (pc := 623) (v := 4) dL_law_623 (by decide) ?_
  refine wp_iadd (pc := 624) dL_law_624 ?_
  refine wp_sald (pc := 625) dL_law_625 (show vp_in (nI (6 * t) + nI 4) (X 0).1 by rw [nI_add]; exact vp_in_nI (by omega) (by omega)) ?_
  refine wp_cV (pc := 626) dL_law_626 lk_13_60 rfl (by decide) rfl (by first | rfl | assumption | exact sh_house (by omega) | exact sh_wish (by omega) | exact sh_wor (by omega) | exact sh_bar (by omega) | exact sh_term (by omega) | exact sh_sheet (by omega) | exact sh_items (by omega) | exact sh_sums (by omega)) rfl rfl (hm _ (fun μ8 hI8 => aK_i ?_))
  refine wp_icmp_eq (pc := 629) (tgt := 1737) dL_law_629 rfl (fun _ => ?_) (fun q => absurd rfl q)
  exact kk _ hI8
theorem law_best (hJ : ∀ (x0 : Int32) (x1 : Int32) (x2 : Int32), Jnt mX11_best mX12_best [.int x0, .int x1, .int x2]) (g0 : aL_get L 0 = some (.retAddr 0)) (g1 : aL_get L 1 = some (.ref 0)) (g2 : aL_get L 2 = some (.ref 86)) (g3 : aL_get L 3 = some (.int (nI (6 * t)))) (hb : 6 * t + 6 ≤ (X 0).1) (hN : (X 0).1 ≤ 3072) (hI : Inv μ) (kk : ∀ μ2, Inv μ2 → WP X mL_law 1737 L [] μ2 Q) : WP X mL_law 634 L [] μ Q := by
  refine wp_aload_n (pc := 634) dL_law_634 (by first | rfl | assumption | (repeat first | assumption | rfl | refine aG_n ?_ rfl rfl)) ?_
  refine wp_eload_n (pc := 635) dL_law_635 (by first | rfl | assumption | (repeat first | assumption | rfl | refine aG_n ?_ rfl rfl)) ?_
  refine wp_iload_n (pc := 636) dL_law_636 (by first | rfl | assumption | (repeat first | assumption | rfl | refine aG_n ?_ rfl rfl)) ?_
  refine wp_iconst (pc := 637) (v := 1) dL_law_637 (by decide) ?_
  refine wp_iadd (pc := 638) dL_law_638 ?_
  refine wp_sald (pc := 639) dL_law_639 (show vp_in (nI (6 * t) + nI 1) (X 0).1 by rw [nI_add]; exact vp_in_nI (by omega) (by omega)) ?_
  refine wp_eload_n (pc := 640) dL_law_640 (by first | rfl | assumption | (repeat first | assumption | rfl | refine aG_n ?_ rfl rfl)) ?_
  refine wp_iload_n (pc := 641) dL_law_641 (by first | rfl | assumption | (repeat first | assumption | rfl | refine aG_n ?_ rfl rfl)) ?_
  refine wp_iconst (pc := 642) (v := 2) dL_law_642 (by decide) ?_
  refine wp_iadd (pc := 643) dL_law_643 ?_
  refine wp_sald (pc := 644) dL_law_644 (show vp_in (nI (6 * t) + nI 2) (X 0).1 by rw [nI_add]; exact vp_in_nI (by omega) (by omega)) ?_
  refine wp_eload_n (pc := 645) dL_law_645 (by first | rfl | assumption | (repeat first | assumption | rfl | refine aG_n ?_ rfl rfl)) ?_
  refine wp_iload_n (pc := 646) dL_law_646 (by first | rfl | assumption | (repeat first | assumption | rfl | refine aG_n ?_ rfl rfl)) ?_
  refine wp_iconst (pc := 647) (v := 3) dL_law_647 (by decide) ?_
  refine wp_iadd (pc := 648) dL_law_648 ?_
  refine wp_sald (pc := 649) dL_law_649 (show vp_in (nI (6 * t) + nI 3) (X 0).1 by rw [nI_add]; exact vp_in_nI (by omega) (by omega)) ?_
  refine wp_cV (pc := 650) dL_law_650 lk_13_61 rfl (by decide) rfl (by first | rfl | assumption | exact sh_house (by omega) | exact sh_wish (by omega) | exact sh_wor (by omega) | exact sh_bar (by omega) | exact sh_term (by omega) | exact sh_sheet (by omega) | exact sh_items (by omega) | exact sh_sums (by omega)) rfl rfl ((hJ _ _ _) _ _ _ hI (fun v9 μ9 hm => aK_i ?_))
  refine wp_aload_n (pc := 653) dL_law_653 (by first | rfl | assumption | (repeat first | assumption | rfl | refine aG_n ?_ rfl rfl)) ?_
  refine wp_eload_n (pc := 654) dL_law_654 (by first | rfl | assumption | (repeat first | assumption | rfl | refine aG_n ?_ rfl rfl)) ?_
  refine wp_iload_n (pc := 655) dL_law_655 (by first | rfl | assumption | (repeat first | assumption | rfl | refine aG_n ?_ rfl rfl)) ?_
  refine wp_iconst (pc := 656) (v := 1) dL_law_656 (by decide) ?_
  refine wp_iadd (pc := 657) dL_law_657 ?_
  refine wp_sald (pc := 658) dL_law_658 (show vp_in (nI (6 * t) + nI 1) (X 0).1 by rw [nI_add]; exact vp_in_nI (by omega) (by omega)) ?_
  refine wp_eload_n (pc := 659) dL_law_659 (by first | rfl | assumption | (repeat first | assumption | rfl | refine aG_n ?_ rfl rfl)) ?_
  refine wp_iload_n (pc := 660) dL_law_660 (by first | rfl | assumption | (repeat first | assumption | rfl | refine aG_n ?_ rfl rfl)) ?_
  refine wp_iconst (pc := 661) (v := 2) dL_law_661 (by decide) ?_
  refine wp_iadd (pc := 662) dL_law_662 ?_
  refine wp_sald (pc := 663) dL_law_663 (show vp_in (nI (6 * t) + nI 2) (X 0).1 by rw [nI_add]; exact vp_in_nI (by omega) (by omega)) ?_
  refine wp_eload_n (pc := 664) dL_law_664 (by first | rfl | assumption | (repeat first | assumption | rfl | refine aG_n ?_ rfl rfl)) ?_
  refine wp_iload_n (pc := 665) dL_law_665 (by first | rfl | assumption | (repeat first | assumption | rfl | refine aG_n ?_ rfl rfl)) ?_
  refine wp_iconst (pc := 666) (v := 3) dL_law_666 (by decide) ?_
  refine wp_iadd (pc := 667) dL_law_667 ?_
  refine wp_sald (pc := 668) dL_law_668 (show vp_in (nI (6 * t) + nI 3) (X 0).1 by rw [nI_add]; exact vp_in_nI (by omega) (by omega)) ?_
  refine wp_cV (pc := 669) dL_law_669 lk_13_64 rfl (by decide) rfl (by first | rfl | assumption | exact sh_house (by omega) | exact sh_wish (by omega) | exact sh_wor (by omega) | exact sh_bar (by omega) | exact sh_term (by omega) | exact sh_sheet (by omega) | exact sh_items (by omega) | exact sh_sums (by omega)) rfl rfl (hm _ (fun μ8 hI8 => aK_i ?_))
  refine wp_icmp_eq (pc := 672) (tgt := 1737) dL_law_672 rfl (fun _ => ?_) (fun q => absurd rfl q)
  exact kk _ hI8
theorem law_talk (hJ : ∀ (x0 : Int32) (x1 : Int32) (x2 : Int32), Jnt mX11_talk mX12_talk [.int x0, .int x1, .int x2]) (g0 : aL_get L 0 = some (.retAddr 0)) (g1 : aL_get L 1 = some (.ref 0)) (g2 : aL_get L 2 = some (.ref 86)) (g3 : aL_get L 3 = some (.int (nI (6 * t)))) (hb : 6 * t + 6 ≤ (X 0).1) (hN : (X 0).1 ≤ 3072) (hI : Inv μ) (kk : ∀ μ2, Inv μ2 → WP X mL_law 1737 L [] μ2 Q) : WP X mL_law 677 L [] μ Q := by
  refine wp_aload_n (pc := 677) dL_law_677 (by first | rfl | assumption | (repeat first | assumption | rfl | refine aG_n ?_ rfl rfl)) ?_
  refine wp_eload_n (pc := 678) dL_law_678 (by first | rfl | assumption | (repeat first | assumption | rfl | refine aG_n ?_ rfl rfl)) ?_
  refine wp_iload_n (pc := 679) dL_law_679 (by first | rfl | assumption | (repeat first | assumption | rfl | refine aG_n ?_ rfl rfl)) ?_
  refine wp_iconst (pc := 680) (v := 1) dL_law_680 (by decide) ?_
  refine wp_iadd (pc := 681) dL_law_681 ?_
  refine wp_sald (pc := 682) dL_law_682 (show vp_in (nI (6 * t) + nI 1) (X 0).1 by rw [nI_add]; exact vp_in_nI (by omega) (by omega)) ?_
  refine wp_eload_n (pc := 683) dL_law_683 (by first | rfl | assumption | (repeat first | assumption | rfl | refine aG_n ?_ rfl rfl)) ?_
  refine wp_iload_n (pc := 684) dL_law_684 (by first | rfl | assumption | (repeat first | assumption | rfl | refine aG_n ?_ rfl rfl)) ?_
  refine wp_iconst (pc := 685) (v := 2) dL_law_685 (by decide) ?_
  refine wp_iadd (pc := 686) dL_law_686 ?_
  refine wp_sald (pc := 687) dL_law_687 (show vp_in (nI (6 * t) + nI 2) (X 0).1 by rw [nI_add]; exact vp_in_nI (by omega) (by omega)) ?_
  refine wp_eload_n (pc := 688) dL_law_688 (by first | rfl | assumption | (repeat first | assumption | rfl | refine aG_n ?_ rfl rfl)) ?_
  refine wp_iload_n (pc := 689) dL_law_689 (by first | rfl | assumption | (repeat first | assumption | rfl | refine aG_n ?_ rfl rfl)) ?_
  refine wp_iconst (pc := 690) (v := 3) dL_law_690 (by decide) ?_
  refine wp_iadd (pc := 691) dL_law_691 ?_
  refine wp_sald (pc := 692) dL_law_692 (show vp_in (nI (6 * t) + nI 3) (X 0).1 by rw [nI_add]; exact vp_in_nI (by omega) (by omega)) ?_
  refine wp_cV (pc := 693) dL_law_693 lk_13_65 rfl (by decide) rfl (by first | rfl | assumption | exact sh_house (by omega) | exact sh_wish (by omega) | exact sh_wor (by omega) | exact sh_bar (by omega) | exact sh_term (by omega) | exact sh_sheet (by omega) | exact sh_items (by omega) | exact sh_sums (by omega)) rfl rfl ((hJ _ _ _) _ _ _ hI (fun v9 μ9 hm => aK_i ?_))
  refine wp_aload_n (pc := 696) dL_law_696 (by first | rfl | assumption | (repeat first | assumption | rfl | refine aG_n ?_ rfl rfl)) ?_
  refine wp_eload_n (pc := 697) dL_law_697 (by first | rfl | assumption | (repeat first | assumption | rfl | refine aG_n ?_ rfl rfl)) ?_
  refine wp_iload_n (pc := 698) dL_law_698 (by first | rfl | assumption | (repeat first | assumption | rfl | refine aG_n ?_ rfl rfl)) ?_
  refine wp_iconst (pc := 699) (v := 1) dL_law_699 (by decide) ?_
  refine wp_iadd (pc := 700) dL_law_700 ?_
  refine wp_sald (pc := 701) dL_law_701 (show vp_in (nI (6 * t) + nI 1) (X 0).1 by rw [nI_add]; exact vp_in_nI (by omega) (by omega)) ?_
  refine wp_eload_n (pc := 702) dL_law_702 (by first | rfl | assumption | (repeat first | assumption | rfl | refine aG_n ?_ rfl rfl)) ?_
  refine wp_iload_n (pc := 703) dL_law_703 (by first | rfl | assumption | (repeat first | assumption | rfl | refine aG_n ?_ rfl rfl)) ?_
  refine wp_iconst (pc := 704) (v := 2) dL_law_704 (by decide) ?_
  refine wp_iadd (pc := 705) dL_law_705 ?_
  refine wp_sald (pc := 706) dL_law_706 (show vp_in (nI (6 * t) + nI 2) (X 0).1 by rw [nI_add]; exact vp_in_nI (by omega) (by omega)) ?_
  refine wp_eload_n (pc := 707) dL_law_707 (by first | rfl | assumption | (repeat first | assumption | rfl | refine aG_n ?_ rfl rfl)) ?_
  refine wp_iload_n (pc := 708) dL_law_708 (by first | rfl | assumption | (repeat first | assumption | rfl | refine aG_n ?_ rfl rfl)) ?_
  refine wp_iconst (pc := 709) (v := 3) dL_law_709 (by decide) ?_
  refine wp_iadd (pc := 710) dL_law_710 ?_
  refine wp_sald (pc := 711) dL_law_711 (show vp_in (nI (6 * t) + nI 3) (X 0).1 by rw [nI_add]; exact vp_in_nI (by omega) (by omega)) ?_
  refine wp_cV (pc := 712) dL_law_712 lk_13_68 rfl (by decide) rfl (by first | rfl | assumption | exact sh_house (by omega) | exact sh_wish (by omega) | exact sh_wor (by omega) | exact sh_bar (by omega) | exact sh_term (by omega) | exact sh_sheet (by omega) | exact sh_items (by omega) | exact sh_sums (by omega)) rfl rfl (hm _ (fun μ8 hI8 => aK_i ?_))
  refine wp_icmp_eq (pc := 715) (tgt := 1737) dL_law_715 rfl (fun _ => ?_) (fun q => absurd rfl q)
  exact kk _ hI8
theorem law_talks (hJ : ∀ (x0 : Int32), Jnt mX11_talks mX12_talks [.int x0]) (g0 : aL_get L 0 = some (.retAddr 0)) (g1 : aL_get L 1 = some (.ref 0)) (g2 : aL_get L 2 = some (.ref 86)) (g3 : aL_get L 3 = some (.int (nI (6 * t)))) (hb : 6 * t + 6 ≤ (X 0).1) (hN : (X 0).1 ≤ 3072) (hI : Inv μ) (kk : ∀ μ2, Inv μ2 → WP X mL_law 1737 L [] μ2 Q) : WP X mL_law 720 L [] μ Q := by
  refine wp_aload_n (pc := 720) dL_law_720 (by first | rfl | assumption | (repeat first | assumption | rfl | refine aG_n ?_ rfl rfl)) ?_
  refine wp_eload_n (pc := 721) dL_law_721 (by first | rfl | assumption | (repeat first | assumption | rfl | refine aG_n ?_ rfl rfl)) ?_
  refine wp_iload_n (pc := 722) dL_law_722 (by first | rfl | assumption | (repeat first | assumption | rfl | refine aG_n ?_ rfl rfl)) ?_
  refine wp_iconst (pc := 723) (v := 1) dL_law_723 (by decide) ?_
  refine wp_iadd (pc := 724) dL_law_724 ?_
  refine wp_sald (pc := 725) dL_law_725 (show vp_in (nI (6 * t) + nI 1) (X 0).1 by rw [nI_add]; exact vp_in_nI (by omega) (by omega)) ?_
  refine wp_cV (pc := 726) dL_law_726 lk_13_69 rfl (by decide) rfl (by first | rfl | assumption | exact sh_house (by omega) | exact sh_wish (by omega) | exact sh_wor (by omega) | exact sh_bar (by omega) | exact sh_term (by omega) | exact sh_sheet (by omega) | exact sh_items (by omega) | exact sh_sums (by omega)) rfl rfl ((hJ _) _ _ _ hI (fun v9 μ9 hm => aK_i ?_))
  refine wp_aload_n (pc := 729) dL_law_729 (by first | rfl | assumption | (repeat first | assumption | rfl | refine aG_n ?_ rfl rfl)) ?_
  refine wp_eload_n (pc := 730) dL_law_730 (by first | rfl | assumption | (repeat first | assumption | rfl | refine aG_n ?_ rfl rfl)) ?_
  refine wp_iload_n (pc := 731) dL_law_731 (by first | rfl | assumption | (repeat first | assumption | rfl | refine aG_n ?_ rfl rfl)) ?_
  refine wp_iconst (pc := 732) (v := 1) dL_law_732 (by decide) ?_
  refine wp_iadd (pc := 733) dL_law_733 ?_
  refine wp_sald (pc := 734) dL_law_734 (show vp_in (nI (6 * t) + nI 1) (X 0).1 by rw [nI_add]; exact vp_in_nI (by omega) (by omega)) ?_
  refine wp_cV (pc := 735) dL_law_735 lk_13_72 rfl (by decide) rfl (by first | rfl | assumption | exact sh_house (by omega) | exact sh_wish (by omega) | exact sh_wor (by omega) | exact sh_bar (by omega) | exact sh_term (by omega) | exact sh_sheet (by omega) | exact sh_items (by omega) | exact sh_sums (by omega)) rfl rfl (hm _ (fun μ8 hI8 => aK_i ?_))
  refine wp_icmp_eq (pc := 738) (tgt := 1737) dL_law_738 rfl (fun _ => ?_) (fun q => absurd rfl q)
  exact kk _ hI8
theorem law_ask (hJ : ∀ (x0 : Int32), Jnt mX11_ask mX12_ask [.int x0]) (g0 : aL_get L 0 = some (.retAddr 0)) (g1 : aL_get L 1 = some (.ref 0)) (g2 : aL_get L 2 = some (.ref 86)) (g3 : aL_get L 3 = some (.int (nI (6 * t)))) (hb : 6 * t + 6 ≤ (X 0).1) (hN : (X 0).1 ≤ 3072) (hI : Inv μ) (kk : ∀ μ2, Inv μ2 → WP X mL_law 1737 L [] μ2 Q) : WP X mL_law 743 L [] μ Q := by
  refine wp_aload_n (pc := 743) dL_law_743 (by first | rfl | assumption | (repeat first | assumption | rfl | refine aG_n ?_ rfl rfl)) ?_
  refine wp_eload_n (pc := 744) dL_law_744 (by first | rfl | assumption | (repeat first | assumption | rfl | refine aG_n ?_ rfl rfl)) ?_
  refine wp_iload_n (pc := 745) dL_law_745 (by first | rfl | assumption | (repeat first | assumption | rfl | refine aG_n ?_ rfl rfl)) ?_
  refine wp_iconst (pc := 746) (v := 1) dL_law_746 (by decide) ?_
  refine wp_iadd (pc := 747) dL_law_747 ?_
  refine wp_sald (pc := 748) dL_law_748 (show vp_in (nI (6 * t) + nI 1) (X 0).1 by rw [nI_add]; exact vp_in_nI (by omega) (by omega)) ?_
  refine wp_cV (pc := 749) dL_law_749 lk_13_73 rfl (by decide) rfl (by first | rfl | assumption | exact sh_house (by omega) | exact sh_wish (by omega) | exact sh_wor (by omega) | exact sh_bar (by omega) | exact sh_term (by omega) | exact sh_sheet (by omega) | exact sh_items (by omega) | exact sh_sums (by omega)) rfl rfl ((hJ _) _ _ _ hI (fun v9 μ9 hm => aK_i ?_))
  refine wp_aload_n (pc := 752) dL_law_752 (by first | rfl | assumption | (repeat first | assumption | rfl | refine aG_n ?_ rfl rfl)) ?_
  refine wp_eload_n (pc := 753) dL_law_753 (by first | rfl | assumption | (repeat first | assumption | rfl | refine aG_n ?_ rfl rfl)) ?_
  refine wp_iload_n (pc := 754) dL_law_754 (by first | rfl | assumption | (repeat first | assumption | rfl | refine aG_n ?_ rfl rfl)) ?_
  refine wp_iconst (pc := 755) (v := 1) dL_law_755 (by decide) ?_
  refine wp_iadd (pc := 756) dL_law_756 ?_
  refine wp_sald (pc := 757) dL_law_757 (show vp_in (nI (6 * t) + nI 1) (X 0).1 by rw [nI_add]; exact vp_in_nI (by omega) (by omega)) ?_
  refine wp_cV (pc := 758) dL_law_758 lk_13_76 rfl (by decide) rfl (by first | rfl | assumption | exact sh_house (by omega) | exact sh_wish (by omega) | exact sh_wor (by omega) | exact sh_bar (by omega) | exact sh_term (by omega) | exact sh_sheet (by omega) | exact sh_items (by omega) | exact sh_sums (by omega)) rfl rfl (hm _ (fun μ8 hI8 => aK_i ?_))
  refine wp_icmp_eq (pc := 761) (tgt := 1737) dL_law_761 rfl (fun _ => ?_) (fun q => absurd rfl q)
  exact kk _ hI8
theorem law_offer (hJ : ∀ (x0 : Int32) (x1 : Int32), Jnt mX11_offer mX12_offer [.int x0, .int x1]) (g0 : aL_get L 0 = some (.retAddr 0)) (g1 : aL_get L 1 = some (.ref 0)) (g2 : aL_get L 2 = some (.ref 86)) (g3 : aL_get L 3 = some (.int (nI (6 * t)))) (hb : 6 * t + 6 ≤ (X 0).1) (hN : (X 0).1 ≤ 3072) (hI : Inv μ) (kk : ∀ μ2, Inv μ2 → WP X mL_law 1737 L [] μ2 Q) : WP X mL_law 766 L [] μ Q := by
  refine wp_aload_n (pc := 766) dL_law_766 (by first | rfl | assumption | (repeat first | assumption | rfl | refine aG_n ?_ rfl rfl)) ?_
  refine wp_eload_n (pc := 767) dL_law_767 (by first | rfl | assumption | (repeat first | assumption | rfl | refine aG_n ?_ rfl rfl)) ?_
  refine wp_iload_n (pc := 768) dL_law_768 (by first | rfl | assumption | (repeat first | assumption | rfl | refine aG_n ?_ rfl rfl)) ?_
  refine wp_iconst (pc := 769) (v := 1) dL_law_769 (by decide) ?_
  refine wp_iadd (pc := 770) dL_law_770 ?_
  refine wp_sald (pc := 771) dL_law_771 (show vp_in (nI (6 * t) + nI 1) (X 0).1 by rw [nI_add]; exact vp_in_nI (by omega) (by omega)) ?_
  refine wp_eload_n (pc := 772) dL_law_772 (by first | rfl | assumption | (repeat first | assumption | rfl | refine aG_n ?_ rfl rfl)) ?_
  refine wp_iload_n (pc := 773) dL_law_773 (by first | rfl | assumption | (repeat first | assumption | rfl | refine aG_n ?_ rfl rfl)) ?_
  refine wp_iconst (pc := 774) (v := 2) dL_law_774 (by decide) ?_
  refine wp_iadd (pc := 775) dL_law_775 ?_
  refine wp_sald (pc := 776) dL_law_776 (show vp_in (nI (6 * t) + nI 2) (X 0).1 by rw [nI_add]; exact vp_in_nI (by omega) (by omega)) ?_
  refine wp_cV (pc := 777) dL_law_777 lk_13_77 rfl (by decide) rfl (by first | rfl | assumption | exact sh_house (by omega) | exact sh_wish (by omega) | exact sh_wor (by omega) | exact sh_bar (by omega) | exact sh_term (by omega) | exact sh_sheet (by omega) | exact sh_items (by omega) | exact sh_sums (by omega)) rfl rfl ((hJ _ _) _ _ _ hI (fun v9 μ9 hm => aK_i ?_))
  refine wp_aload_n (pc := 780) dL_law_780 (by first | rfl | assumption | (repeat first | assumption | rfl | refine aG_n ?_ rfl rfl)) ?_
  refine wp_eload_n (pc := 781) dL_law_781 (by first | rfl | assumption | (repeat first | assumption | rfl | refine aG_n ?_ rfl rfl)) ?_
  refine wp_iload_n (pc := 782) dL_law_782 (by first | rfl | assumption | (repeat first | assumption | rfl | refine aG_n ?_ rfl rfl)) ?_
  refine wp_iconst (pc := 783) (v := 1) dL_law_783 (by decide) ?_
  refine wp_iadd (pc := 784) dL_law_784 ?_
  refine wp_sald (pc := 785) dL_law_785 (show vp_in (nI (6 * t) + nI 1) (X 0).1 by rw [nI_add]; exact vp_in_nI (by omega) (by omega)) ?_
  refine wp_eload_n (pc := 786) dL_law_786 (by first | rfl | assumption | (repeat first | assumption | rfl | refine aG_n ?_ rfl rfl)) ?_
  refine wp_iload_n (pc := 787) dL_law_787 (by first | rfl | assumption | (repeat first | assumption | rfl | refine aG_n ?_ rfl rfl)) ?_
  refine wp_iconst (pc := 788) (v := 2) dL_law_788 (by decide) ?_
  refine wp_iadd (pc := 789) dL_law_789 ?_
  refine wp_sald (pc := 790) dL_law_790 (show vp_in (nI (6 * t) + nI 2) (X 0).1 by rw [nI_add]; exact vp_in_nI (by omega) (by omega)) ?_
  refine wp_cV (pc := 791) dL_law_791 lk_13_80 rfl (by decide) rfl (by first | rfl | assumption | exact sh_house (by omega) | exact sh_wish (by omega) | exact sh_wor (by omega) | exact sh_bar (by omega) | exact sh_term (by omega) | exact sh_sheet (by omega) | exact sh_items (by omega) | exact sh_sums (by omega)) rfl rfl (hm _ (fun μ8 hI8 => aK_i ?_))
  refine wp_icmp_eq (pc := 794) (tgt := 1737) dL_law_794 rfl (fun _ => ?_) (fun q => absurd rfl q)
  exact kk _ hI8
theorem law_yes (hJ : Jnt mX11_yes mX12_yes []) (g0 : aL_get L 0 = some (.retAddr 0)) (g1 : aL_get L 1 = some (.ref 0)) (g2 : aL_get L 2 = some (.ref 86)) (g3 : aL_get L 3 = some (.int (nI (6 * t)))) (hb : 6 * t + 6 ≤ (X 0).1) (hN : (X 0).1 ≤ 3072) (hI : Inv μ) (kk : ∀ μ2, Inv μ2 → WP X mL_law 1737 L [] μ2 Q) : WP X mL_law 799 L [] μ Q := by
  refine wp_aload_n (pc := 799) dL_law_799 (by first | rfl | assumption | (repeat first | assumption | rfl | refine aG_n ?_ rfl rfl)) ?_
  refine wp_cV (pc := 800) dL_law_800 lk_13_81 rfl (by decide) rfl (by first | rfl | assumption | exact sh_house (by omega) | exact sh_wish (by omega) | exact sh_wor (by omega) | exact sh_bar (by omega) | exact sh_term (by omega) | exact sh_sheet (by omega) | exact sh_items (by omega) | exact sh_sums (by omega)) rfl rfl ((hJ) _ _ _ hI (fun v9 μ9 hm => aK_i ?_))
  refine wp_aload_n (pc := 803) dL_law_803 (by first | rfl | assumption | (repeat first | assumption | rfl | refine aG_n ?_ rfl rfl)) ?_
  refine wp_cV (pc := 804) dL_law_804 lk_13_85 rfl (by decide) rfl (by first | rfl | assumption | exact sh_house (by omega) | exact sh_wish (by omega) | exact sh_wor (by omega) | exact sh_bar (by omega) | exact sh_term (by omega) | exact sh_sheet (by omega) | exact sh_items (by omega) | exact sh_sums (by omega)) rfl rfl (hm _ (fun μ8 hI8 => aK_i ?_))
  refine wp_icmp_eq (pc := 807) (tgt := 1737) dL_law_807 rfl (fun _ => ?_) (fun q => absurd rfl q)
  exact kk _ hI8
theorem law_walk (hJ : Jnt mX11_walk mX12_walk []) (g0 : aL_get L 0 = some (.retAddr 0)) (g1 : aL_get L 1 = some (.ref 0)) (g2 : aL_get L 2 = some (.ref 86)) (g3 : aL_get L 3 = some (.int (nI (6 * t)))) (hb : 6 * t + 6 ≤ (X 0).1) (hN : (X 0).1 ≤ 3072) (hI : Inv μ) (kk : ∀ μ2, Inv μ2 → WP X mL_law 1737 L [] μ2 Q) : WP X mL_law 812 L [] μ Q := by
  refine wp_aload_n (pc := 812) dL_law_812 (by first | rfl | assumption | (repeat first | assumption | rfl | refine aG_n ?_ rfl rfl)) ?_
  refine wp_cV (pc := 813) dL_law_813 lk_13_86 rfl (by decide) rfl (by first | rfl | assumption | exact sh_house (by omega) | exact sh_wish (by omega) | exact sh_wor (by omega) | exact sh_bar (by omega) | exact sh_term (by omega) | exact sh_sheet (by omega) | exact sh_items (by omega) | exact sh_sums (by omega)) rfl rfl ((hJ) _ _ _ hI (fun v9 μ9 hm => aK_i ?_))
  refine wp_aload_n (pc := 816) dL_law_816 (by first | rfl | assumption | (repeat first | assumption | rfl | refine aG_n ?_ rfl rfl)) ?_
  refine wp_cV (pc := 817) dL_law_817 lk_13_89 rfl (by decide) rfl (by first | rfl | assumption | exact sh_house (by omega) | exact sh_wish (by omega) | exact sh_wor (by omega) | exact sh_bar (by omega) | exact sh_term (by omega) | exact sh_sheet (by omega) | exact sh_items (by omega) | exact sh_sums (by omega)) rfl rfl (hm _ (fun μ8 hI8 => aK_i ?_))
  refine wp_icmp_eq (pc := 820) (tgt := 1737) dL_law_820 rfl (fun _ => ?_) (fun q => absurd rfl q)
  exact kk _ hI8
theorem law_says (hJ : Jnt mX11_says mX12_says []) (g0 : aL_get L 0 = some (.retAddr 0)) (g1 : aL_get L 1 = some (.ref 0)) (g2 : aL_get L 2 = some (.ref 86)) (g3 : aL_get L 3 = some (.int (nI (6 * t)))) (hb : 6 * t + 6 ≤ (X 0).1) (hN : (X 0).1 ≤ 3072) (hI : Inv μ) (kk : ∀ μ2, Inv μ2 → WP X mL_law 1737 L [] μ2 Q) : WP X mL_law 825 L [] μ Q := by
  refine wp_aload_n (pc := 825) dL_law_825 (by first | rfl | assumption | (repeat first | assumption | rfl | refine aG_n ?_ rfl rfl)) ?_
  refine wp_cV (pc := 826) dL_law_826 lk_13_90 rfl (by decide) rfl (by first | rfl | assumption | exact sh_house (by omega) | exact sh_wish (by omega) | exact sh_wor (by omega) | exact sh_bar (by omega) | exact sh_term (by omega) | exact sh_sheet (by omega) | exact sh_items (by omega) | exact sh_sums (by omega)) rfl rfl ((hJ) _ _ _ hI (fun v9 μ9 hm => aK_i ?_))
  refine wp_aload_n (pc := 829) dL_law_829 (by first | rfl | assumption | (repeat first | assumption | rfl | refine aG_n ?_ rfl rfl)) ?_
  refine wp_cV (pc := 830) dL_law_830 lk_13_93 rfl (by decide) rfl (by first | rfl | assumption | exact sh_house (by omega) | exact sh_wish (by omega) | exact sh_wor (by omega) | exact sh_bar (by omega) | exact sh_term (by omega) | exact sh_sheet (by omega) | exact sh_items (by omega) | exact sh_sums (by omega)) rfl rfl (hm _ (fun μ8 hI8 => aK_i ?_))
  refine wp_icmp_eq (pc := 833) (tgt := 1737) dL_law_833 rfl (fun _ => ?_) (fun q => absurd rfl q)
  exact kk _ hI8
theorem law_runs (hJ : Jnt mX11_runs mX12_runs []) (g0 : aL_get L 0 = some (.retAddr 0)) (g1 : aL_get L 1 = some (.ref 0)) (g2 : aL_get L 2 = some (.ref 86)) (g3 : aL_get L 3 = some (.int (nI (6 * t)))) (hb : 6 * t + 6 ≤ (X 0).1) (hN : (X 0).1 ≤ 3072) (hI : Inv μ) (kk : ∀ μ2, Inv μ2 → WP X mL_law 1737 L [] μ2 Q) : WP X mL_law 838 L [] μ Q := by
  refine wp_aload_n (pc := 838) dL_law_838 (by first | rfl | assumption | (repeat first | assumption | rfl | refine aG_n ?_ rfl rfl)) ?_
  refine wp_cV (pc := 839) dL_law_839 lk_13_94 rfl (by decide) rfl (by first | rfl | assumption | exact sh_house (by omega) | exact sh_wish (by omega) | exact sh_wor (by omega) | exact sh_bar (by omega) | exact sh_term (by omega) | exact sh_sheet (by omega) | exact sh_items (by omega) | exact sh_sums (by omega)) rfl rfl ((hJ) _ _ _ hI (fun v9 μ9 hm => aK_i ?_))
  refine wp_aload_n (pc := 842) dL_law_842 (by first | rfl | assumption | (repeat first | assumption | rfl | refine aG_n ?_ rfl rfl)) ?_
  refine wp_cV (pc := 843) dL_law_843 lk_13_97 rfl (by decide) rfl (by first | rfl | assumption | exact sh_house (by omega) | exact sh_wish (by omega) | exact sh_wor (by omega) | exact sh_bar (by omega) | exact sh_term (by omega) | exact sh_sheet (by omega) | exact sh_items (by omega) | exact sh_sums (by omega)) rfl rfl (hm _ (fun μ8 hI8 => aK_i ?_))
  refine wp_icmp_eq (pc := 846) (tgt := 1737) dL_law_846 rfl (fun _ => ?_) (fun q => absurd rfl q)
  exact kk _ hI8
theorem law_word (hJ : ∀ (x0 : Int32) (x1 : Int32), Jnt mX11_word mX12_word [.int x0, .int x1]) (g0 : aL_get L 0 = some (.retAddr 0)) (g1 : aL_get L 1 = some (.ref 0)) (g2 : aL_get L 2 = some (.ref 86)) (g3 : aL_get L 3 = some (.int (nI (6 * t)))) (hb : 6 * t + 6 ≤ (X 0).1) (hN : (X 0).1 ≤ 3072) (hI : Inv μ) (kk : ∀ μ2, Inv μ2 → WP X mL_law 1737 L [] μ2 Q) : WP X mL_law 851 L [] μ Q := by
  refine wp_aload_n (pc := 851) dL_law_851 (by first | rfl | assumption | (repeat first | assumption | rfl | refine aG_n ?_ rfl rfl)) ?_
  refine wp_eload_n (pc := 852) dL_law_852 (by first | rfl | assumption | (repeat first | assumption | rfl | refine aG_n ?_ rfl rfl)) ?_
  refine wp_iload_n (pc := 853) dL_law_853 (by first | rfl | assumption | (repeat first | assumption | rfl | refine aG_n ?_ rfl rfl)) ?_
  refine wp_iconst (pc := 854) (v := 1) dL_law_854 (by decide) ?_
  refine wp_iadd (pc := 855) dL_law_855 ?_
  refine wp_sald (pc := 856) dL_law_856 (show vp_in (nI (6 * t) + nI 1) (X 0).1 by rw [nI_add]; exact vp_in_nI (by omega) (by omega)) ?_
  refine wp_eload_n (pc := 857) dL_law_857 (by first | rfl | assumption | (repeat first | assumption | rfl | refine aG_n ?_ rfl rfl)) ?_
  refine wp_iload_n (pc := 858) dL_law_858 (by first | rfl | assumption | (repeat first | assumption | rfl | refine aG_n ?_ rfl rfl)) ?_
  refine wp_iconst (pc := 859) (v := 2) dL_law_859 (by decide) ?_
  refine wp_iadd (pc := 860) dL_law_860 ?_
  refine wp_sald (pc := 861) dL_law_861 (show vp_in (nI (6 * t) + nI 2) (X 0).1 by rw [nI_add]; exact vp_in_nI (by omega) (by omega)) ?_
  refine wp_cV (pc := 862) dL_law_862 lk_13_98 rfl (by decide) rfl (by first | rfl | assumption | exact sh_house (by omega) | exact sh_wish (by omega) | exact sh_wor (by omega) | exact sh_bar (by omega) | exact sh_term (by omega) | exact sh_sheet (by omega) | exact sh_items (by omega) | exact sh_sums (by omega)) rfl rfl ((hJ _ _) _ _ _ hI (fun v9 μ9 hm => aK_i ?_))
  refine wp_aload_n (pc := 865) dL_law_865 (by first | rfl | assumption | (repeat first | assumption | rfl | refine aG_n ?_ rfl rfl)) ?_
  refine wp_eload_n (pc := 866) dL_law_866 (by first | rfl | assumption | (repeat first | assumption | rfl | refine aG_n ?_ rfl rfl)) ?_
  refine wp_iload_n (pc := 867) dL_law_867 (by first | rfl | assumption | (repeat first | assumption | rfl | refine aG_n ?_ rfl rfl)) ?_
  refine wp_iconst (pc := 868) (v := 1) dL_law_868 (by decide) ?_
  refine wp_iadd (pc := 869) dL_law_869 ?_
  refine wp_sald (pc := 870) dL_law_870 (show vp_in (nI (6 * t) + nI 1) (X 0).1 by rw [nI_add]; exact vp_in_nI (by omega) (by omega)) ?_
  refine wp_eload_n (pc := 871) dL_law_871 (by first | rfl | assumption | (repeat first | assumption | rfl | refine aG_n ?_ rfl rfl)) ?_
  refine wp_iload_n (pc := 872) dL_law_872 (by first | rfl | assumption | (repeat first | assumption | rfl | refine aG_n ?_ rfl rfl)) ?_
  refine wp_iconst (pc := 873) (v := 2) dL_law_873 (by decide) ?_
  refine wp_iadd (pc := 874) dL_law_874 ?_
  refine wp_sald (pc := 875) dL_law_875 (show vp_in (nI (6 * t) + nI 2) (X 0).1 by rw [nI_add]; exact vp_in_nI (by omega) (by omega)) ?_
  refine wp_cV (pc := 876) dL_law_876 lk_13_101 rfl (by decide) rfl (by first | rfl | assumption | exact sh_house (by omega) | exact sh_wish (by omega) | exact sh_wor (by omega) | exact sh_bar (by omega) | exact sh_term (by omega) | exact sh_sheet (by omega) | exact sh_items (by omega) | exact sh_sums (by omega)) rfl rfl (hm _ (fun μ8 hI8 => aK_i ?_))
  refine wp_icmp_eq (pc := 879) (tgt := 1737) dL_law_879 rfl (fun _ => ?_) (fun q => absurd rfl q)
  exact kk _ hI8
theorem law_offered (hJ : ∀ (x0 : Int32) (x1 : Int32), Jnt mX11_offered mX12_offered [.int x0, .int x1]) (g0 : aL_get L 0 = some (.retAddr 0)) (g1 : aL_get L 1 = some (.ref 0)) (g2 : aL_get L 2 = some (.ref 86)) (g3 : aL_get L 3 = some (.int (nI (6 * t)))) (hb : 6 * t + 6 ≤ (X 0).1) (hN : (X 0).1 ≤ 3072) (hI : Inv μ) (kk : ∀ μ2, Inv μ2 → WP X mL_law 1737 L [] μ2 Q) : WP X mL_law 884 L [] μ Q := by
  refine wp_aload_n (pc := 884) dL_law_884 (by first | rfl | assumption | (repeat first | assumption | rfl | refine aG_n ?_ rfl rfl)) ?_
  refine wp_eload_n (pc := 885) dL_law_885 (by first | rfl | assumption | (repeat first | assumption | rfl | refine aG_n ?_ rfl rfl)) ?_
  refine wp_iload_n (pc := 886) dL_law_886 (by first | rfl | assumption | (repeat first | assumption | rfl | refine aG_n ?_ rfl rfl)) ?_
  refine wp_iconst (pc := 887) (v := 1) dL_law_887 (by decide) ?_
  refine wp_iadd (pc := 888) dL_law_888 ?_
  refine wp_sald (pc := 889) dL_law_889 (show vp_in (nI (6 * t) + nI 1) (X 0).1 by rw [nI_add]; exact vp_in_nI (by omega) (by omega)) ?_
  refine wp_eload_n (pc := 890) dL_law_890 (by first | rfl | assumption | (repeat first | assumption | rfl | refine aG_n ?_ rfl rfl)) ?_
  refine wp_iload_n (pc := 891) dL_law_891 (by first | rfl | assumption | (repeat first | assumption | rfl | refine aG_n ?_ rfl rfl)) ?_
  refine wp_iconst (pc := 892) (v := 2) dL_law_892 (by decide) ?_
  refine wp_iadd (pc := 893) dL_law_893 ?_
  refine wp_sald (pc := 894) dL_law_894 (show vp_in (nI (6 * t) + nI 2) (X 0).1 by rw [nI_add]; exact vp_in_nI (by omega) (by omega)) ?_
  refine wp_cV (pc := 895) dL_law_895 lk_13_102 rfl (by decide) rfl (by first | rfl | assumption | exact sh_house (by omega) | exact sh_wish (by omega) | exact sh_wor (by omega) | exact sh_bar (by omega) | exact sh_term (by omega) | exact sh_sheet (by omega) | exact sh_items (by omega) | exact sh_sums (by omega)) rfl rfl ((hJ _ _) _ _ _ hI (fun v9 μ9 hm => aK_i ?_))
  refine wp_aload_n (pc := 898) dL_law_898 (by first | rfl | assumption | (repeat first | assumption | rfl | refine aG_n ?_ rfl rfl)) ?_
  refine wp_eload_n (pc := 899) dL_law_899 (by first | rfl | assumption | (repeat first | assumption | rfl | refine aG_n ?_ rfl rfl)) ?_
  refine wp_iload_n (pc := 900) dL_law_900 (by first | rfl | assumption | (repeat first | assumption | rfl | refine aG_n ?_ rfl rfl)) ?_
  refine wp_iconst (pc := 901) (v := 1) dL_law_901 (by decide) ?_
  refine wp_iadd (pc := 902) dL_law_902 ?_
  refine wp_sald (pc := 903) dL_law_903 (show vp_in (nI (6 * t) + nI 1) (X 0).1 by rw [nI_add]; exact vp_in_nI (by omega) (by omega)) ?_
  refine wp_eload_n (pc := 904) dL_law_904 (by first | rfl | assumption | (repeat first | assumption | rfl | refine aG_n ?_ rfl rfl)) ?_
  refine wp_iload_n (pc := 905) dL_law_905 (by first | rfl | assumption | (repeat first | assumption | rfl | refine aG_n ?_ rfl rfl)) ?_
  refine wp_iconst (pc := 906) (v := 2) dL_law_906 (by decide) ?_
  refine wp_iadd (pc := 907) dL_law_907 ?_
  refine wp_sald (pc := 908) dL_law_908 (show vp_in (nI (6 * t) + nI 2) (X 0).1 by rw [nI_add]; exact vp_in_nI (by omega) (by omega)) ?_
  refine wp_cV (pc := 909) dL_law_909 lk_13_105 rfl (by decide) rfl (by first | rfl | assumption | exact sh_house (by omega) | exact sh_wish (by omega) | exact sh_wor (by omega) | exact sh_bar (by omega) | exact sh_term (by omega) | exact sh_sheet (by omega) | exact sh_items (by omega) | exact sh_sums (by omega)) rfl rfl (hm _ (fun μ8 hI8 => aK_i ?_))
  refine wp_icmp_eq (pc := 912) (tgt := 1737) dL_law_912 rfl (fun _ => ?_) (fun q => absurd rfl q)
  exact kk _ hI8
theorem law_learnt (hJ : ∀ (x0 : Int32) (x1 : Int32), Jnt mX11_learnt mX12_learnt [.int x0, .int x1]) (g0 : aL_get L 0 = some (.retAddr 0)) (g1 : aL_get L 1 = some (.ref 0)) (g2 : aL_get L 2 = some (.ref 86)) (g3 : aL_get L 3 = some (.int (nI (6 * t)))) (hb : 6 * t + 6 ≤ (X 0).1) (hN : (X 0).1 ≤ 3072) (hI : Inv μ) (kk : ∀ μ2, Inv μ2 → WP X mL_law 1737 L [] μ2 Q) : WP X mL_law 917 L [] μ Q := by
  refine wp_aload_n (pc := 917) dL_law_917 (by first | rfl | assumption | (repeat first | assumption | rfl | refine aG_n ?_ rfl rfl)) ?_
  refine wp_eload_n (pc := 918) dL_law_918 (by first | rfl | assumption | (repeat first | assumption | rfl | refine aG_n ?_ rfl rfl)) ?_
  refine wp_iload_n (pc := 919) dL_law_919 (by first | rfl | assumption | (repeat first | assumption | rfl | refine aG_n ?_ rfl rfl)) ?_
  refine wp_iconst (pc := 920) (v := 1) dL_law_920 (by decide) ?_
  refine wp_iadd (pc := 921) dL_law_921 ?_
  refine wp_sald (pc := 922) dL_law_922 (show vp_in (nI (6 * t) + nI 1) (X 0).1 by rw [nI_add]; exact vp_in_nI (by omega) (by omega)) ?_
  refine wp_eload_n (pc := 923) dL_law_923 (by first | rfl | assumption | (repeat first | assumption | rfl | refine aG_n ?_ rfl rfl)) ?_
  refine wp_iload_n (pc := 924) dL_law_924 (by first | rfl | assumption | (repeat first | assumption | rfl | refine aG_n ?_ rfl rfl)) ?_
  refine wp_iconst (pc := 925) (v := 2) dL_law_925 (by decide) ?_
  refine wp_iadd (pc := 926) dL_law_926 ?_
  refine wp_sald (pc := 927) dL_law_927 (show vp_in (nI (6 * t) + nI 2) (X 0).1 by rw [nI_add]; exact vp_in_nI (by omega) (by omega)) ?_
  refine wp_cV (pc := 928) dL_law_928 lk_13_106 rfl (by decide) rfl (by first | rfl | assumption | exact sh_house (by omega) | exact sh_wish (by omega) | exact sh_wor (by omega) | exact sh_bar (by omega) | exact sh_term (by omega) | exact sh_sheet (by omega) | exact sh_items (by omega) | exact sh_sums (by omega)) rfl rfl ((hJ _ _) _ _ _ hI (fun v9 μ9 hm => aK_i ?_))
  refine wp_aload_n (pc := 931) dL_law_931 (by first | rfl | assumption | (repeat first | assumption | rfl | refine aG_n ?_ rfl rfl)) ?_
  refine wp_eload_n (pc := 932) dL_law_932 (by first | rfl | assumption | (repeat first | assumption | rfl | refine aG_n ?_ rfl rfl)) ?_
  refine wp_iload_n (pc := 933) dL_law_933 (by first | rfl | assumption | (repeat first | assumption | rfl | refine aG_n ?_ rfl rfl)) ?_
  refine wp_iconst (pc := 934) (v := 1) dL_law_934 (by decide) ?_
  refine wp_iadd (pc := 935) dL_law_935 ?_
  refine wp_sald (pc := 936) dL_law_936 (show vp_in (nI (6 * t) + nI 1) (X 0).1 by rw [nI_add]; exact vp_in_nI (by omega) (by omega)) ?_
  refine wp_eload_n (pc := 937) dL_law_937 (by first | rfl | assumption | (repeat first | assumption | rfl | refine aG_n ?_ rfl rfl)) ?_
  refine wp_iload_n (pc := 938) dL_law_938 (by first | rfl | assumption | (repeat first | assumption | rfl | refine aG_n ?_ rfl rfl)) ?_
  refine wp_iconst (pc := 939) (v := 2) dL_law_939 (by decide) ?_
  refine wp_iadd (pc := 940) dL_law_940 ?_
  refine wp_sald (pc := 941) dL_law_941 (show vp_in (nI (6 * t) + nI 2) (X 0).1 by rw [nI_add]; exact vp_in_nI (by omega) (by omega)) ?_
  refine wp_cV (pc := 942) dL_law_942 lk_13_109 rfl (by decide) rfl (by first | rfl | assumption | exact sh_house (by omega) | exact sh_wish (by omega) | exact sh_wor (by omega) | exact sh_bar (by omega) | exact sh_term (by omega) | exact sh_sheet (by omega) | exact sh_items (by omega) | exact sh_sums (by omega)) rfl rfl (hm _ (fun μ8 hI8 => aK_i ?_))
  refine wp_icmp_eq (pc := 945) (tgt := 1737) dL_law_945 rfl (fun _ => ?_) (fun q => absurd rfl q)
  exact kk _ hI8
theorem law_value (hJ : ∀ (x0 : Int32), Jnt mX11_value mX12_value [.int x0]) (g0 : aL_get L 0 = some (.retAddr 0)) (g1 : aL_get L 1 = some (.ref 0)) (g2 : aL_get L 2 = some (.ref 86)) (g3 : aL_get L 3 = some (.int (nI (6 * t)))) (hb : 6 * t + 6 ≤ (X 0).1) (hN : (X 0).1 ≤ 3072) (hI : Inv μ) (kk : ∀ μ2, Inv μ2 → WP X mL_law 1737 L [] μ2 Q) : WP X mL_law 950 L [] μ Q := by
  refine wp_aload_n (pc := 950) dL_law_950 (by first | rfl | assumption | (repeat first | assumption | rfl | refine aG_n ?_ rfl rfl)) ?_
  refine wp_eload_n (pc := 951) dL_law_951 (by first | rfl | assumption | (repeat first | assumption | rfl | refine aG_n ?_ rfl rfl)) ?_
  refine wp_iload_n (pc := 952) dL_law_952 (by first | rfl | assumption | (repeat first | assumption | rfl | refine aG_n ?_ rfl rfl)) ?_
  refine wp_iconst (pc := 953) (v := 1) dL_law_953 (by decide) ?_
  refine wp_iadd (pc := 954) dL_law_954 ?_
  refine wp_sald (pc := 955) dL_law_955 (show vp_in (nI (6 * t) + nI 1) (X 0).1 by rw [nI_add]; exact vp_in_nI (by omega) (by omega)) ?_
  refine wp_cV (pc := 956) dL_law_956 lk_13_110 rfl (by decide) rfl (by first | rfl | assumption | exact sh_house (by omega) | exact sh_wish (by omega) | exact sh_wor (by omega) | exact sh_bar (by omega) | exact sh_term (by omega) | exact sh_sheet (by omega) | exact sh_items (by omega) | exact sh_sums (by omega)) rfl rfl ((hJ _) _ _ _ hI (fun v9 μ9 hm => aK_i ?_))
  refine wp_aload_n (pc := 959) dL_law_959 (by first | rfl | assumption | (repeat first | assumption | rfl | refine aG_n ?_ rfl rfl)) ?_
  refine wp_eload_n (pc := 960) dL_law_960 (by first | rfl | assumption | (repeat first | assumption | rfl | refine aG_n ?_ rfl rfl)) ?_
  refine wp_iload_n (pc := 961) dL_law_961 (by first | rfl | assumption | (repeat first | assumption | rfl | refine aG_n ?_ rfl rfl)) ?_
  refine wp_iconst (pc := 962) (v := 1) dL_law_962 (by decide) ?_
  refine wp_iadd (pc := 963) dL_law_963 ?_
  refine wp_sald (pc := 964) dL_law_964 (show vp_in (nI (6 * t) + nI 1) (X 0).1 by rw [nI_add]; exact vp_in_nI (by omega) (by omega)) ?_
  refine wp_cV (pc := 965) dL_law_965 lk_13_113 rfl (by decide) rfl (by first | rfl | assumption | exact sh_house (by omega) | exact sh_wish (by omega) | exact sh_wor (by omega) | exact sh_bar (by omega) | exact sh_term (by omega) | exact sh_sheet (by omega) | exact sh_items (by omega) | exact sh_sums (by omega)) rfl rfl (hm _ (fun μ8 hI8 => aK_i ?_))
  refine wp_icmp_eq (pc := 968) (tgt := 1737) dL_law_968 rfl (fun _ => ?_) (fun q => absurd rfl q)
  exact kk _ hI8
theorem law_unrest (hJ : Jnt mX11_unrest mX12_unrest []) (g0 : aL_get L 0 = some (.retAddr 0)) (g1 : aL_get L 1 = some (.ref 0)) (g2 : aL_get L 2 = some (.ref 86)) (g3 : aL_get L 3 = some (.int (nI (6 * t)))) (hb : 6 * t + 6 ≤ (X 0).1) (hN : (X 0).1 ≤ 3072) (hI : Inv μ) (kk : ∀ μ2, Inv μ2 → WP X mL_law 1737 L [] μ2 Q) : WP X mL_law 973 L [] μ Q := by
  refine wp_aload_n (pc := 973) dL_law_973 (by first | rfl | assumption | (repeat first | assumption | rfl | refine aG_n ?_ rfl rfl)) ?_
  refine wp_cV (pc := 974) dL_law_974 lk_13_114 rfl (by decide) rfl (by first | rfl | assumption | exact sh_house (by omega) | exact sh_wish (by omega) | exact sh_wor (by omega) | exact sh_bar (by omega) | exact sh_term (by omega) | exact sh_sheet (by omega) | exact sh_items (by omega) | exact sh_sums (by omega)) rfl rfl ((hJ) _ _ _ hI (fun v9 μ9 hm => aK_i ?_))
  refine wp_aload_n (pc := 977) dL_law_977 (by first | rfl | assumption | (repeat first | assumption | rfl | refine aG_n ?_ rfl rfl)) ?_
  refine wp_cV (pc := 978) dL_law_978 lk_13_117 rfl (by decide) rfl (by first | rfl | assumption | exact sh_house (by omega) | exact sh_wish (by omega) | exact sh_wor (by omega) | exact sh_bar (by omega) | exact sh_term (by omega) | exact sh_sheet (by omega) | exact sh_items (by omega) | exact sh_sums (by omega)) rfl rfl (hm _ (fun μ8 hI8 => aK_i ?_))
  refine wp_icmp_eq (pc := 981) (tgt := 1737) dL_law_981 rfl (fun _ => ?_) (fun q => absurd rfl q)
  exact kk _ hI8
theorem law_leaves (hJ : Jnt mX11_leaves mX12_leaves []) (g0 : aL_get L 0 = some (.retAddr 0)) (g1 : aL_get L 1 = some (.ref 0)) (g2 : aL_get L 2 = some (.ref 86)) (g3 : aL_get L 3 = some (.int (nI (6 * t)))) (hb : 6 * t + 6 ≤ (X 0).1) (hN : (X 0).1 ≤ 3072) (hI : Inv μ) (kk : ∀ μ2, Inv μ2 → WP X mL_law 1737 L [] μ2 Q) : WP X mL_law 986 L [] μ Q := by
  refine wp_aload_n (pc := 986) dL_law_986 (by first | rfl | assumption | (repeat first | assumption | rfl | refine aG_n ?_ rfl rfl)) ?_
  refine wp_cV (pc := 987) dL_law_987 lk_13_118 rfl (by decide) rfl (by first | rfl | assumption | exact sh_house (by omega) | exact sh_wish (by omega) | exact sh_wor (by omega) | exact sh_bar (by omega) | exact sh_term (by omega) | exact sh_sheet (by omega) | exact sh_items (by omega) | exact sh_sums (by omega)) rfl rfl ((hJ) _ _ _ hI (fun v9 μ9 hm => aK_i ?_))
  refine wp_aload_n (pc := 990) dL_law_990 (by first | rfl | assumption | (repeat first | assumption | rfl | refine aG_n ?_ rfl rfl)) ?_
  refine wp_cV (pc := 991) dL_law_991 lk_13_121 rfl (by decide) rfl (by first | rfl | assumption | exact sh_house (by omega) | exact sh_wish (by omega) | exact sh_wor (by omega) | exact sh_bar (by omega) | exact sh_term (by omega) | exact sh_sheet (by omega) | exact sh_items (by omega) | exact sh_sums (by omega)) rfl rfl (hm _ (fun μ8 hI8 => aK_i ?_))
  refine wp_icmp_eq (pc := 994) (tgt := 1737) dL_law_994 rfl (fun _ => ?_) (fun q => absurd rfl q)
  exact kk _ hI8
theorem law_share (hJ : ∀ (x0 : Int32), JntLX X mX11_share mX12_share [.int x0]) (g0 : aL_get L 0 = some (.retAddr 0)) (g1 : aL_get L 1 = some (.ref 0)) (g2 : aL_get L 2 = some (.ref 86)) (g3 : aL_get L 3 = some (.int (nI (6 * t)))) (hb : 6 * t + 6 ≤ (X 0).1) (hN : (X 0).1 ≤ 3072) (hI : Inv μ) (kk : ∀ μ2, Inv μ2 → WP X mL_law 1737 L [] μ2 Q) : WP X mL_law 999 L [] μ Q := by
  refine wp_aload_n (pc := 999) dL_law_999 (by first | rfl | assumption | (repeat first | assumption | rfl | refine aG_n ?_ rfl rfl)) ?_
  refine wp_eload_n (pc := 1000) dL_law_1000 (by first | rfl | assumption | (repeat first | assumption | rfl | refine aG_n ?_ rfl rfl)) ?_
  refine wp_iload_n (pc := 1001) dL_law_1001 (by first | rfl | assumption | (repeat first | assumption | rfl | refine aG_n ?_ rfl rfl)) ?_
  refine wp_iconst (pc := 1002) (v := 1) dL_law_1002 (by decide) ?_
  refine wp_iadd (pc := 1003) dL_law_1003 ?_
  refine wp_sald (pc := 1004) dL_law_1004 (show vp_in (nI (6 * t) + nI 1) (X 0).1 by rw [nI_add]; exact vp_in_nI (by omega) (by omega)) ?_
  refine wp_cV (pc := 1005) dL_law_1005 lk_13_122 rfl (by decide) rfl (by first | rfl | assumption | exact sh_house (by omega) | exact sh_wish (by omega) | exact sh_wor (by omega) | exact sh_bar (by omega) | exact sh_term (by omega) | exact sh_sheet (by omega) | exact sh_items (by omega) | exact sh_sums (by omega)) rfl rfl ((hJ _) _ _ hI (fun v9 μ9 hm => aK_l ?_))
  refine wp_aload_n (pc := 1008) dL_law_1008 (by first | rfl | assumption | (repeat first | assumption | rfl | refine aG_n ?_ rfl rfl)) ?_
  refine wp_eload_n (pc := 1009) dL_law_1009 (by first | rfl | assumption | (repeat first | assumption | rfl | refine aG_n ?_ rfl rfl)) ?_
  refine wp_iload_n (pc := 1010) dL_law_1010 (by first | rfl | assumption | (repeat first | assumption | rfl | refine aG_n ?_ rfl rfl)) ?_
  refine wp_iconst (pc := 1011) (v := 1) dL_law_1011 (by decide) ?_
  refine wp_iadd (pc := 1012) dL_law_1012 ?_
  refine wp_sald (pc := 1013) dL_law_1013 (show vp_in (nI (6 * t) + nI 1) (X 0).1 by rw [nI_add]; exact vp_in_nI (by omega) (by omega)) ?_
  refine wp_cV (pc := 1014) dL_law_1014 lk_13_126 rfl (by decide) rfl (by first | rfl | assumption | exact sh_house (by omega) | exact sh_wish (by omega) | exact sh_wor (by omega) | exact sh_bar (by omega) | exact sh_term (by omega) | exact sh_sheet (by omega) | exact sh_items (by omega) | exact sh_sums (by omega)) rfl rfl (hm _ (fun μ8 hI8 => aK_l ?_))
  refine wp_lcmp (pc := 1017) dL_law_1017 ?_
  refine wp_if_eq (pc := 1018) (tgt := 1737) dL_law_1018 rfl (fun _ => ?_) (fun q => absurd (by rw [lg_cmp_eq]) q)
  exact kk _ hI8
theorem law_envy (hJ : Jnt mX11_envy mX12_envy []) (g0 : aL_get L 0 = some (.retAddr 0)) (g1 : aL_get L 1 = some (.ref 0)) (g2 : aL_get L 2 = some (.ref 86)) (g3 : aL_get L 3 = some (.int (nI (6 * t)))) (hb : 6 * t + 6 ≤ (X 0).1) (hN : (X 0).1 ≤ 3072) (hI : Inv μ) (kk : ∀ μ2, Inv μ2 → WP X mL_law 1737 L [] μ2 Q) : WP X mL_law 1023 L [] μ Q := by
  refine wp_aload_n (pc := 1023) dL_law_1023 (by first | rfl | assumption | (repeat first | assumption | rfl | refine aG_n ?_ rfl rfl)) ?_
  refine wp_cV (pc := 1024) dL_law_1024 lk_13_127 rfl (by decide) rfl (by first | rfl | assumption | exact sh_house (by omega) | exact sh_wish (by omega) | exact sh_wor (by omega) | exact sh_bar (by omega) | exact sh_term (by omega) | exact sh_sheet (by omega) | exact sh_items (by omega) | exact sh_sums (by omega)) rfl rfl ((hJ) _ _ _ hI (fun v9 μ9 hm => aK_i ?_))
  refine wp_aload_n (pc := 1027) dL_law_1027 (by first | rfl | assumption | (repeat first | assumption | rfl | refine aG_n ?_ rfl rfl)) ?_
  refine wp_cV (pc := 1028) dL_law_1028 lk_13_130 rfl (by decide) rfl (by first | rfl | assumption | exact sh_house (by omega) | exact sh_wish (by omega) | exact sh_wor (by omega) | exact sh_bar (by omega) | exact sh_term (by omega) | exact sh_sheet (by omega) | exact sh_items (by omega) | exact sh_sums (by omega)) rfl rfl (hm _ (fun μ8 hI8 => aK_i ?_))
  refine wp_icmp_eq (pc := 1031) (tgt := 1737) dL_law_1031 rfl (fun _ => ?_) (fun q => absurd rfl q)
  exact kk _ hI8
theorem law_due (hJ : ∀ (x0 : Int32) (x1 : Int32) (x2 : Int32) (x3 : Int32), Jnt mX11_due mX12_due [.int x0, .int x1, .int x2, .int x3]) (g0 : aL_get L 0 = some (.retAddr 0)) (g1 : aL_get L 1 = some (.ref 0)) (g2 : aL_get L 2 = some (.ref 86)) (g3 : aL_get L 3 = some (.int (nI (6 * t)))) (hb : 6 * t + 6 ≤ (X 0).1) (hN : (X 0).1 ≤ 3072) (hI : Inv μ) (kk : ∀ μ2, Inv μ2 → WP X mL_law 1737 L [] μ2 Q) : WP X mL_law 1036 L [] μ Q := by
  refine wp_aload_n (pc := 1036) dL_law_1036 (by first | rfl | assumption | (repeat first | assumption | rfl | refine aG_n ?_ rfl rfl)) ?_
  refine wp_eload_n (pc := 1037) dL_law_1037 (by first | rfl | assumption | (repeat first | assumption | rfl | refine aG_n ?_ rfl rfl)) ?_
  refine wp_iload_n (pc := 1038) dL_law_1038 (by first | rfl | assumption | (repeat first | assumption | rfl | refine aG_n ?_ rfl rfl)) ?_
  refine wp_iconst (pc := 1039) (v := 1) dL_law_1039 (by decide) ?_
  refine wp_iadd (pc := 1040) dL_law_1040 ?_
  refine wp_sald (pc := 1041) dL_law_1041 (show vp_in (nI (6 * t) + nI 1) (X 0).1 by rw [nI_add]; exact vp_in_nI (by omega) (by omega)) ?_
  refine wp_eload_n (pc := 1042) dL_law_1042 (by first | rfl | assumption | (repeat first | assumption | rfl | refine aG_n ?_ rfl rfl)) ?_
  refine wp_iload_n (pc := 1043) dL_law_1043 (by first | rfl | assumption | (repeat first | assumption | rfl | refine aG_n ?_ rfl rfl)) ?_
  refine wp_iconst (pc := 1044) (v := 2) dL_law_1044 (by decide) ?_
  refine wp_iadd (pc := 1045) dL_law_1045 ?_
  refine wp_sald (pc := 1046) dL_law_1046 (show vp_in (nI (6 * t) + nI 2) (X 0).1 by rw [nI_add]; exact vp_in_nI (by omega) (by omega)) ?_
  refine wp_eload_n (pc := 1047) dL_law_1047 (by first | rfl | assumption | (repeat first | assumption | rfl | refine aG_n ?_ rfl rfl)) ?_
  refine wp_iload_n (pc := 1048) dL_law_1048 (by first | rfl | assumption | (repeat first | assumption | rfl | refine aG_n ?_ rfl rfl)) ?_
  refine wp_iconst (pc := 1049) (v := 3) dL_law_1049 (by decide) ?_
  refine wp_iadd (pc := 1050) dL_law_1050 ?_
  refine wp_sald (pc := 1051) dL_law_1051 (show vp_in (nI (6 * t) + nI 3) (X 0).1 by rw [nI_add]; exact vp_in_nI (by omega) (by omega)) ?_
  refine wp_eload_n (pc := 1052) dL_law_1052 (by first | rfl | assumption | (repeat first | assumption | rfl | refine aG_n ?_ rfl rfl)) ?_
  refine wp_iload_n (pc := 1053) dL_law_1053 (by first | rfl | assumption | (repeat first | assumption | rfl | refine aG_n ?_ rfl rfl)) ?_
  refine wp_iconst (pc := 1054) (v := 4) dL_law_1054 (by decide) ?_
  refine wp_iadd (pc := 1055) dL_law_1055 ?_
  refine wp_sald (pc := 1056) dL_law_1056 (show vp_in (nI (6 * t) + nI 4) (X 0).1 by rw [nI_add]; exact vp_in_nI (by omega) (by omega)) ?_
  refine wp_cV (pc := 1057) dL_law_1057 lk_13_131 rfl (by decide) rfl (by first | rfl | assumption | exact sh_house (by omega) | exact sh_wish (by omega) | exact sh_wor (by omega) | exact sh_bar (by omega) | exact sh_term (by omega) | exact sh_sheet (by omega) | exact sh_items (by omega) | exact sh_sums (by omega)) rfl rfl ((hJ _ _ _ _) _ _ _ hI (fun v9 μ9 hm => aK_i ?_))
  refine wp_aload_n (pc := 1060) dL_law_1060 (by first | rfl | assumption | (repeat first | assumption | rfl | refine aG_n ?_ rfl rfl)) ?_
  refine wp_eload_n (pc := 1061) dL_law_1061 (by first | rfl | assumption | (repeat first | assumption | rfl | refine aG_n ?_ rfl rfl)) ?_
  refine wp_iload_n (pc := 1062) dL_law_1062 (by first | rfl | assumption | (repeat first | assumption | rfl | refine aG_n ?_ rfl rfl)) ?_
  refine wp_iconst (pc := 1063) (v := 1) dL_law_1063 (by decide) ?_
  refine wp_iadd (pc := 1064) dL_law_1064 ?_
  refine wp_sald (pc := 1065) dL_law_1065 (show vp_in (nI (6 * t) + nI 1) (X 0).1 by rw [nI_add]; exact vp_in_nI (by omega) (by omega)) ?_
  refine wp_eload_n (pc := 1066) dL_law_1066 (by first | rfl | assumption | (repeat first | assumption | rfl | refine aG_n ?_ rfl rfl)) ?_
  refine wp_iload_n (pc := 1067) dL_law_1067 (by first | rfl | assumption | (repeat first | assumption | rfl | refine aG_n ?_ rfl rfl)) ?_
  refine wp_iconst (pc := 1068) (v := 2) dL_law_1068 (by decide) ?_
  refine wp_iadd (pc := 1069) dL_law_1069 ?_
  refine wp_sald (pc := 1070) dL_law_1070 (show vp_in (nI (6 * t) + nI 2) (X 0).1 by rw [nI_add]; exact vp_in_nI (by omega) (by omega)) ?_
  refine wp_eload_n (pc := 1071) dL_law_1071 (by first | rfl | assumption | (repeat first | assumption | rfl | refine aG_n ?_ rfl rfl)) ?_
  refine wp_iload_n (pc := 1072) dL_law_1072 (by first | rfl | assumption | (repeat first | assumption | rfl | refine aG_n ?_ rfl rfl)) ?_
  refine wp_iconst (pc := 1073) (v := 3) dL_law_1073 (by decide) ?_
  refine wp_iadd (pc := 1074) dL_law_1074 ?_
  refine wp_sald (pc := 1075) dL_law_1075 (show vp_in (nI (6 * t) + nI 3) (X 0).1 by rw [nI_add]; exact vp_in_nI (by omega) (by omega)) ?_
  refine wp_eload_n (pc := 1076) dL_law_1076 (by first | rfl | assumption | (repeat first | assumption | rfl | refine aG_n ?_ rfl rfl)) ?_
  refine wp_iload_n (pc := 1077) dL_law_1077 (by first | rfl | assumption | (repeat first | assumption | rfl | refine aG_n ?_ rfl rfl)) ?_
  refine wp_iconst (pc := 1078) (v := 4) dL_law_1078 (by decide) ?_
  refine wp_iadd (pc := 1079) dL_law_1079 ?_
  refine wp_sald (pc := 1080) dL_law_1080 (show vp_in (nI (6 * t) + nI 4) (X 0).1 by rw [nI_add]; exact vp_in_nI (by omega) (by omega)) ?_
  refine wp_cV (pc := 1081) dL_law_1081 lk_13_134 rfl (by decide) rfl (by first | rfl | assumption | exact sh_house (by omega) | exact sh_wish (by omega) | exact sh_wor (by omega) | exact sh_bar (by omega) | exact sh_term (by omega) | exact sh_sheet (by omega) | exact sh_items (by omega) | exact sh_sums (by omega)) rfl rfl (hm _ (fun μ8 hI8 => aK_i ?_))
  refine wp_icmp_eq (pc := 1084) (tgt := 1737) dL_law_1084 rfl (fun _ => ?_) (fun q => absurd rfl q)
  exact kk _ hI8
theorem law_when (hJ : ∀ (x0 : Int32) (x1 : Int32) (x2 : Int32) (x3 : Int32) (x4 : Int32), Jnt mX11_when mX12_when [.int x0, .int x1, .int x2, .int x3, .int x4]) (g0 : aL_get L 0 = some (.retAddr 0)) (g1 : aL_get L 1 = some (.ref 0)) (g2 : aL_get L 2 = some (.ref 86)) (g3 : aL_get L 3 = some (.int (nI (6 * t)))) (hb : 6 * t + 6 ≤ (X 0).1) (hN : (X 0).1 ≤ 3072) (hI : Inv μ) (kk : ∀ μ2, Inv μ2 → WP X mL_law 1737 L [] μ2 Q) : WP X mL_law 1089 L [] μ Q := by
  refine wp_aload_n (pc := 1089) dL_law_1089 (by first | rfl | assumption | (repeat first | assumption | rfl | refine aG_n ?_ rfl rfl)) ?_
  refine wp_eload_n (pc := 1090) dL_law_1090 (by first | rfl | assumption | (repeat first | assumption | rfl | refine aG_n ?_ rfl rfl)) ?_
  refine wp_iload_n (pc := 1091) dL_law_1091 (by first | rfl | assumption | (repeat first | assumption | rfl | refine aG_n ?_ rfl rfl)) ?_
  refine wp_iconst (pc := 1092) (v := 1) dL_law_1092 (by decide) ?_
  refine wp_iadd (pc := 1093) dL_law_1093 ?_
  refine wp_sald (pc := 1094) dL_law_1094 (show vp_in (nI (6 * t) + nI 1) (X 0).1 by rw [nI_add]; exact vp_in_nI (by omega) (by omega)) ?_
  refine wp_eload_n (pc := 1095) dL_law_1095 (by first | rfl | assumption | (repeat first | assumption | rfl | refine aG_n ?_ rfl rfl)) ?_
  refine wp_iload_n (pc := 1096) dL_law_1096 (by first | rfl | assumption | (repeat first | assumption | rfl | refine aG_n ?_ rfl rfl)) ?_
  refine wp_iconst (pc := 1097) (v := 2) dL_law_1097 (by decide) ?_
  refine wp_iadd (pc := 1098) dL_law_1098 ?_
  refine wp_sald (pc := 1099) dL_law_1099 (show vp_in (nI (6 * t) + nI 2) (X 0).1 by rw [nI_add]; exact vp_in_nI (by omega) (by omega)) ?_
  refine wp_eload_n (pc := 1100) dL_law_1100 (by first | rfl | assumption | (repeat first | assumption | rfl | refine aG_n ?_ rfl rfl)) ?_
  refine wp_iload_n (pc := 1101) dL_law_1101 (by first | rfl | assumption | (repeat first | assumption | rfl | refine aG_n ?_ rfl rfl)) ?_
  refine wp_iconst (pc := 1102) (v := 3) dL_law_1102 (by decide) ?_
  refine wp_iadd (pc := 1103) dL_law_1103 ?_
  refine wp_sald (pc := 1104) dL_law_1104 (show vp_in (nI (6 * t) + nI 3) (X 0).1 by rw [nI_add]; exact vp_in_nI (by omega) (by omega)) ?_
  refine wp_eload_n (pc := 1105) dL_law_1105 (by first | rfl | assumption | (repeat first | assumption | rfl | refine aG_n ?_ rfl rfl)) ?_
  refine wp_iload_n (pc := 1106) dL_law_1106 (by first | rfl | assumption | (repeat first | assumption | rfl | refine aG_n ?_ rfl rfl)) ?_
  refine wp_iconst (pc := 1107) (v := 4) dL_law_1107 (by decide) ?_
  refine wp_iadd (pc := 1108) dL_law_1108 ?_
  refine wp_sald (pc := 1109) dL_law_1109 (show vp_in (nI (6 * t) + nI 4) (X 0).1 by rw [nI_add]; exact vp_in_nI (by omega) (by omega)) ?_
  refine wp_eload_n (pc := 1110) dL_law_1110 (by first | rfl | assumption | (repeat first | assumption | rfl | refine aG_n ?_ rfl rfl)) ?_
  refine wp_iload_n (pc := 1111) dL_law_1111 (by first | rfl | assumption | (repeat first | assumption | rfl | refine aG_n ?_ rfl rfl)) ?_
  refine wp_iconst (pc := 1112) (v := 5) dL_law_1112 (by decide) ?_
  refine wp_iadd (pc := 1113) dL_law_1113 ?_
  refine wp_sald (pc := 1114) dL_law_1114 (show vp_in (nI (6 * t) + nI 5) (X 0).1 by rw [nI_add]; exact vp_in_nI (by omega) (by omega)) ?_
  refine wp_cV (pc := 1115) dL_law_1115 lk_13_135 rfl (by decide) rfl (by first | rfl | assumption | exact sh_house (by omega) | exact sh_wish (by omega) | exact sh_wor (by omega) | exact sh_bar (by omega) | exact sh_term (by omega) | exact sh_sheet (by omega) | exact sh_items (by omega) | exact sh_sums (by omega)) rfl rfl ((hJ _ _ _ _ _) _ _ _ hI (fun v9 μ9 hm => aK_i ?_))
  refine wp_aload_n (pc := 1118) dL_law_1118 (by first | rfl | assumption | (repeat first | assumption | rfl | refine aG_n ?_ rfl rfl)) ?_
  refine wp_eload_n (pc := 1119) dL_law_1119 (by first | rfl | assumption | (repeat first | assumption | rfl | refine aG_n ?_ rfl rfl)) ?_
  refine wp_iload_n (pc := 1120) dL_law_1120 (by first | rfl | assumption | (repeat first | assumption | rfl | refine aG_n ?_ rfl rfl)) ?_
  refine wp_iconst (pc := 1121) (v := 1) dL_law_1121 (by decide) ?_
  refine wp_iadd (pc := 1122) dL_law_1122 ?_
  refine wp_sald (pc := 1123) dL_law_1123 (show vp_in (nI (6 * t) + nI 1) (X 0).1 by rw [nI_add]; exact vp_in_nI (by omega) (by omega)) ?_
  refine wp_eload_n (pc := 1124) dL_law_1124 (by first | rfl | assumption | (repeat first | assumption | rfl | refine aG_n ?_ rfl rfl)) ?_
  refine wp_iload_n (pc := 1125) dL_law_1125 (by first | rfl | assumption | (repeat first | assumption | rfl | refine aG_n ?_ rfl rfl)) ?_
  refine wp_iconst (pc := 1126) (v := 2) dL_law_1126 (by decide) ?_
  refine wp_iadd (pc := 1127) dL_law_1127 ?_
  refine wp_sald (pc := 1128) dL_law_1128 (show vp_in (nI (6 * t) + nI 2) (X 0).1 by rw [nI_add]; exact vp_in_nI (by omega) (by omega)) ?_
  refine wp_eload_n (pc := 1129) dL_law_1129 (by first | rfl | assumption | (repeat first | assumption | rfl | refine aG_n ?_ rfl rfl)) ?_
  refine wp_iload_n (pc := 1130) dL_law_1130 (by first | rfl | assumption | (repeat first | assumption | rfl | refine aG_n ?_ rfl rfl)) ?_
  refine wp_iconst (pc := 1131) (v := 3) dL_law_1131 (by decide) ?_
  refine wp_iadd (pc := 1132) dL_law_1132 ?_
  refine wp_sald (pc := 1133) dL_law_1133 (show vp_in (nI (6 * t) + nI 3) (X 0).1 by rw [nI_add]; exact vp_in_nI (by omega) (by omega)) ?_
  refine wp_eload_n (pc := 1134) dL_law_1134 (by first | rfl | assumption | (repeat first | assumption | rfl | refine aG_n ?_ rfl rfl)) ?_
  refine wp_iload_n (pc := 1135) dL_law_1135 (by first | rfl | assumption | (repeat first | assumption | rfl | refine aG_n ?_ rfl rfl)) ?_
  refine wp_iconst (pc := 1136) (v := 4) dL_law_1136 (by decide) ?_
  refine wp_iadd (pc := 1137) dL_law_1137 ?_
  refine wp_sald (pc := 1138) dL_law_1138 (show vp_in (nI (6 * t) + nI 4) (X 0).1 by rw [nI_add]; exact vp_in_nI (by omega) (by omega)) ?_
  refine wp_eload_n (pc := 1139) dL_law_1139 (by first | rfl | assumption | (repeat first | assumption | rfl | refine aG_n ?_ rfl rfl)) ?_
  refine wp_iload_n (pc := 1140) dL_law_1140 (by first | rfl | assumption | (repeat first | assumption | rfl | refine aG_n ?_ rfl rfl)) ?_
  refine wp_iconst (pc := 1141) (v := 5) dL_law_1141 (by decide) ?_
  refine wp_iadd (pc := 1142) dL_law_1142 ?_
  refine wp_sald (pc := 1143) dL_law_1143 (show vp_in (nI (6 * t) + nI 5) (X 0).1 by rw [nI_add]; exact vp_in_nI (by omega) (by omega)) ?_
  refine wp_cV (pc := 1144) dL_law_1144 lk_13_138 rfl (by decide) rfl (by first | rfl | assumption | exact sh_house (by omega) | exact sh_wish (by omega) | exact sh_wor (by omega) | exact sh_bar (by omega) | exact sh_term (by omega) | exact sh_sheet (by omega) | exact sh_items (by omega) | exact sh_sums (by omega)) rfl rfl (hm _ (fun μ8 hI8 => aK_i ?_))
  refine wp_icmp_eq (pc := 1147) (tgt := 1737) dL_law_1147 rfl (fun _ => ?_) (fun q => absurd rfl q)
  exact kk _ hI8
theorem law_mend (hJ : ∀ (x0 : Int32) (x1 : Int32) (x2 : Int32) (x3 : Int32) (x4 : Int32), Jnt mX11_mend mX12_mend [.int x0, .int x1, .int x2, .int x3, .int x4]) (g0 : aL_get L 0 = some (.retAddr 0)) (g1 : aL_get L 1 = some (.ref 0)) (g2 : aL_get L 2 = some (.ref 86)) (g3 : aL_get L 3 = some (.int (nI (6 * t)))) (hb : 6 * t + 6 ≤ (X 0).1) (hN : (X 0).1 ≤ 3072) (hI : Inv μ) (kk : ∀ μ2, Inv μ2 → WP X mL_law 1737 L [] μ2 Q) : WP X mL_law 1152 L [] μ Q := by
  refine wp_aload_n (pc := 1152) dL_law_1152 (by first | rfl | assumption | (repeat first | assumption | rfl | refine aG_n ?_ rfl rfl)) ?_
  refine wp_eload_n (pc := 1153) dL_law_1153 (by first | rfl | assumption | (repeat first | assumption | rfl | refine aG_n ?_ rfl rfl)) ?_
  refine wp_iload_n (pc := 1154) dL_law_1154 (by first | rfl | assumption | (repeat first | assumption | rfl | refine aG_n ?_ rfl rfl)) ?_
  refine wp_iconst (pc := 1155) (v := 1) dL_law_1155 (by decide) ?_
  refine wp_iadd (pc := 1156) dL_law_1156 ?_
  refine wp_sald (pc := 1157) dL_law_1157 (show vp_in (nI (6 * t) + nI 1) (X 0).1 by rw [nI_add]; exact vp_in_nI (by omega) (by omega)) ?_
  refine wp_eload_n (pc := 1158) dL_law_1158 (by first | rfl | assumption | (repeat first | assumption | rfl | refine aG_n ?_ rfl rfl)) ?_
  refine wp_iload_n (pc := 1159) dL_law_1159 (by first | rfl | assumption | (repeat first | assumption | rfl | refine aG_n ?_ rfl rfl)) ?_
  refine wp_iconst (pc := 1160) (v := 2) dL_law_1160 (by decide) ?_
  refine wp_iadd (pc := 1161) dL_law_1161 ?_
  refine wp_sald (pc := 1162) dL_law_1162 (show vp_in (nI (6 * t) + nI 2) (X 0).1 by rw [nI_add]; exact vp_in_nI (by omega) (by omega)) ?_
  refine wp_eload_n (pc := 1163) dL_law_1163 (by first | rfl | assumption | (repeat first | assumption | rfl | refine aG_n ?_ rfl rfl)) ?_
  refine wp_iload_n (pc := 1164) dL_law_1164 (by first | rfl | assumption | (repeat first | assumption | rfl | refine aG_n ?_ rfl rfl)) ?_
  refine wp_iconst (pc := 1165) (v := 3) dL_law_1165 (by decide) ?_
  refine wp_iadd (pc := 1166) dL_law_1166 ?_
  refine wp_sald (pc := 1167) dL_law_1167 (show vp_in (nI (6 * t) + nI 3) (X 0).1 by rw [nI_add]; exact vp_in_nI (by omega) (by omega)) ?_
  refine wp_eload_n (pc := 1168) dL_law_1168 (by first | rfl | assumption | (repeat first | assumption | rfl | refine aG_n ?_ rfl rfl)) ?_
  refine wp_iload_n (pc := 1169) dL_law_1169 (by first | rfl | assumption | (repeat first | assumption | rfl | refine aG_n ?_ rfl rfl)) ?_
  refine wp_iconst (pc := 1170) (v := 4) dL_law_1170 (by decide) ?_
  refine wp_iadd (pc := 1171) dL_law_1171 ?_
  refine wp_sald (pc := 1172) dL_law_1172 (show vp_in (nI (6 * t) + nI 4) (X 0).1 by rw [nI_add]; exact vp_in_nI (by omega) (by omega)) ?_
  refine wp_eload_n (pc := 1173) dL_law_1173 (by first | rfl | assumption | (repeat first | assumption | rfl | refine aG_n ?_ rfl rfl)) ?_
  refine wp_iload_n (pc := 1174) dL_law_1174 (by first | rfl | assumption | (repeat first | assumption | rfl | refine aG_n ?_ rfl rfl)) ?_
  refine wp_iconst (pc := 1175) (v := 5) dL_law_1175 (by decide) ?_
  refine wp_iadd (pc := 1176) dL_law_1176 ?_
  refine wp_sald (pc := 1177) dL_law_1177 (show vp_in (nI (6 * t) + nI 5) (X 0).1 by rw [nI_add]; exact vp_in_nI (by omega) (by omega)) ?_
  refine wp_cV (pc := 1178) dL_law_1178 lk_13_139 rfl (by decide) rfl (by first | rfl | assumption | exact sh_house (by omega) | exact sh_wish (by omega) | exact sh_wor (by omega) | exact sh_bar (by omega) | exact sh_term (by omega) | exact sh_sheet (by omega) | exact sh_items (by omega) | exact sh_sums (by omega)) rfl rfl ((hJ _ _ _ _ _) _ _ _ hI (fun v9 μ9 hm => aK_i ?_))
  refine wp_aload_n (pc := 1181) dL_law_1181 (by first | rfl | assumption | (repeat first | assumption | rfl | refine aG_n ?_ rfl rfl)) ?_
  refine wp_eload_n (pc := 1182) dL_law_1182 (by first | rfl | assumption | (repeat first | assumption | rfl | refine aG_n ?_ rfl rfl)) ?_
  refine wp_iload_n (pc := 1183) dL_law_1183 (by first | rfl | assumption | (repeat first | assumption | rfl | refine aG_n ?_ rfl rfl)) ?_
  refine wp_iconst (pc := 1184) (v := 1) dL_law_1184 (by decide) ?_
  refine wp_iadd (pc := 1185) dL_law_1185 ?_
  refine wp_sald (pc := 1186) dL_law_1186 (show vp_in (nI (6 * t) + nI 1) (X 0).1 by rw [nI_add]; exact vp_in_nI (by omega) (by omega)) ?_
  refine wp_eload_n (pc := 1187) dL_law_1187 (by first | rfl | assumption | (repeat first | assumption | rfl | refine aG_n ?_ rfl rfl)) ?_
  refine wp_iload_n (pc := 1188) dL_law_1188 (by first | rfl | assumption | (repeat first | assumption | rfl | refine aG_n ?_ rfl rfl)) ?_
  refine wp_iconst (pc := 1189) (v := 2) dL_law_1189 (by decide) ?_
  refine wp_iadd (pc := 1190) dL_law_1190 ?_
  refine wp_sald (pc := 1191) dL_law_1191 (show vp_in (nI (6 * t) + nI 2) (X 0).1 by rw [nI_add]; exact vp_in_nI (by omega) (by omega)) ?_
  refine wp_eload_n (pc := 1192) dL_law_1192 (by first | rfl | assumption | (repeat first | assumption | rfl | refine aG_n ?_ rfl rfl)) ?_
  refine wp_iload_n (pc := 1193) dL_law_1193 (by first | rfl | assumption | (repeat first | assumption | rfl | refine aG_n ?_ rfl rfl)) ?_
  refine wp_iconst (pc := 1194) (v := 3) dL_law_1194 (by decide) ?_
  refine wp_iadd (pc := 1195) dL_law_1195 ?_
  refine wp_sald (pc := 1196) dL_law_1196 (show vp_in (nI (6 * t) + nI 3) (X 0).1 by rw [nI_add]; exact vp_in_nI (by omega) (by omega)) ?_
  refine wp_eload_n (pc := 1197) dL_law_1197 (by first | rfl | assumption | (repeat first | assumption | rfl | refine aG_n ?_ rfl rfl)) ?_
  refine wp_iload_n (pc := 1198) dL_law_1198 (by first | rfl | assumption | (repeat first | assumption | rfl | refine aG_n ?_ rfl rfl)) ?_
  refine wp_iconst (pc := 1199) (v := 4) dL_law_1199 (by decide) ?_
  refine wp_iadd (pc := 1200) dL_law_1200 ?_
  refine wp_sald (pc := 1201) dL_law_1201 (show vp_in (nI (6 * t) + nI 4) (X 0).1 by rw [nI_add]; exact vp_in_nI (by omega) (by omega)) ?_
  refine wp_eload_n (pc := 1202) dL_law_1202 (by first | rfl | assumption | (repeat first | assumption | rfl | refine aG_n ?_ rfl rfl)) ?_
  refine wp_iload_n (pc := 1203) dL_law_1203 (by first | rfl | assumption | (repeat first | assumption | rfl | refine aG_n ?_ rfl rfl)) ?_
  refine wp_iconst (pc := 1204) (v := 5) dL_law_1204 (by decide) ?_
  refine wp_iadd (pc := 1205) dL_law_1205 ?_
  refine wp_sald (pc := 1206) dL_law_1206 (show vp_in (nI (6 * t) + nI 5) (X 0).1 by rw [nI_add]; exact vp_in_nI (by omega) (by omega)) ?_
  refine wp_cV (pc := 1207) dL_law_1207 lk_13_142 rfl (by decide) rfl (by first | rfl | assumption | exact sh_house (by omega) | exact sh_wish (by omega) | exact sh_wor (by omega) | exact sh_bar (by omega) | exact sh_term (by omega) | exact sh_sheet (by omega) | exact sh_items (by omega) | exact sh_sums (by omega)) rfl rfl (hm _ (fun μ8 hI8 => aK_i ?_))
  refine wp_icmp_eq (pc := 1210) (tgt := 1737) dL_law_1210 rfl (fun _ => ?_) (fun q => absurd rfl q)
  exact kk _ hI8
theorem law_bar (hJ : ∀ (x0 : Int32) (x1 : Int32), Jnt mX11_bar mX12_bar [.int x0, .int x1]) (g0 : aL_get L 0 = some (.retAddr 0)) (g1 : aL_get L 1 = some (.ref 0)) (g2 : aL_get L 2 = some (.ref 86)) (g3 : aL_get L 3 = some (.int (nI (6 * t)))) (hb : 6 * t + 6 ≤ (X 0).1) (hN : (X 0).1 ≤ 3072) (hI : Inv μ) (kk : ∀ μ2, Inv μ2 → WP X mL_law 1737 L [] μ2 Q) : WP X mL_law 1215 L [] μ Q := by
  refine wp_aload_n (pc := 1215) dL_law_1215 (by first | rfl | assumption | (repeat first | assumption | rfl | refine aG_n ?_ rfl rfl)) ?_
  refine wp_eload_n (pc := 1216) dL_law_1216 (by first | rfl | assumption | (repeat first | assumption | rfl | refine aG_n ?_ rfl rfl)) ?_
  refine wp_iload_n (pc := 1217) dL_law_1217 (by first | rfl | assumption | (repeat first | assumption | rfl | refine aG_n ?_ rfl rfl)) ?_
  refine wp_iconst (pc := 1218) (v := 1) dL_law_1218 (by decide) ?_
  refine wp_iadd (pc := 1219) dL_law_1219 ?_
  refine wp_sald (pc := 1220) dL_law_1220 (show vp_in (nI (6 * t) + nI 1) (X 0).1 by rw [nI_add]; exact vp_in_nI (by omega) (by omega)) ?_
  refine wp_eload_n (pc := 1221) dL_law_1221 (by first | rfl | assumption | (repeat first | assumption | rfl | refine aG_n ?_ rfl rfl)) ?_
  refine wp_iload_n (pc := 1222) dL_law_1222 (by first | rfl | assumption | (repeat first | assumption | rfl | refine aG_n ?_ rfl rfl)) ?_
  refine wp_iconst (pc := 1223) (v := 2) dL_law_1223 (by decide) ?_
  refine wp_iadd (pc := 1224) dL_law_1224 ?_
  refine wp_sald (pc := 1225) dL_law_1225 (show vp_in (nI (6 * t) + nI 2) (X 0).1 by rw [nI_add]; exact vp_in_nI (by omega) (by omega)) ?_
  refine wp_cV (pc := 1226) dL_law_1226 lk_13_143 rfl (by decide) rfl (by first | rfl | assumption | exact sh_house (by omega) | exact sh_wish (by omega) | exact sh_wor (by omega) | exact sh_bar (by omega) | exact sh_term (by omega) | exact sh_sheet (by omega) | exact sh_items (by omega) | exact sh_sums (by omega)) rfl rfl ((hJ _ _) _ _ _ hI (fun v9 μ9 hm => aK_i ?_))
  refine wp_aload_n (pc := 1229) dL_law_1229 (by first | rfl | assumption | (repeat first | assumption | rfl | refine aG_n ?_ rfl rfl)) ?_
  refine wp_eload_n (pc := 1230) dL_law_1230 (by first | rfl | assumption | (repeat first | assumption | rfl | refine aG_n ?_ rfl rfl)) ?_
  refine wp_iload_n (pc := 1231) dL_law_1231 (by first | rfl | assumption | (repeat first | assumption | rfl | refine aG_n ?_ rfl rfl)) ?_
  refine wp_iconst (pc := 1232) (v := 1) dL_law_1232 (by decide) ?_
  refine wp_iadd (pc := 1233) dL_law_1233 ?_
  refine wp_sald (pc := 1234) dL_law_1234 (show vp_in (nI (6 * t) + nI 1) (X 0).1 by rw [nI_add]; exact vp_in_nI (by omega) (by omega)) ?_
  refine wp_eload_n (pc := 1235) dL_law_1235 (by first | rfl | assumption | (repeat first | assumption | rfl | refine aG_n ?_ rfl rfl)) ?_
  refine wp_iload_n (pc := 1236) dL_law_1236 (by first | rfl | assumption | (repeat first | assumption | rfl | refine aG_n ?_ rfl rfl)) ?_
  refine wp_iconst (pc := 1237) (v := 2) dL_law_1237 (by decide) ?_
  refine wp_iadd (pc := 1238) dL_law_1238 ?_
  refine wp_sald (pc := 1239) dL_law_1239 (show vp_in (nI (6 * t) + nI 2) (X 0).1 by rw [nI_add]; exact vp_in_nI (by omega) (by omega)) ?_
  refine wp_cV (pc := 1240) dL_law_1240 lk_13_146 rfl (by decide) rfl (by first | rfl | assumption | exact sh_house (by omega) | exact sh_wish (by omega) | exact sh_wor (by omega) | exact sh_bar (by omega) | exact sh_term (by omega) | exact sh_sheet (by omega) | exact sh_items (by omega) | exact sh_sums (by omega)) rfl rfl (hm _ (fun μ8 hI8 => aK_i ?_))
  refine wp_icmp_eq (pc := 1243) (tgt := 1737) dL_law_1243 rfl (fun _ => ?_) (fun q => absurd rfl q)
  exact kk _ hI8
theorem law_happen (hJ : ∀ (x0 : Int32) (x1 : Int32) (x2 : Int32), Jnt mX11_happen mX12_happen [.int x0, .int x1, .int x2]) (g0 : aL_get L 0 = some (.retAddr 0)) (g1 : aL_get L 1 = some (.ref 0)) (g2 : aL_get L 2 = some (.ref 86)) (g3 : aL_get L 3 = some (.int (nI (6 * t)))) (hb : 6 * t + 6 ≤ (X 0).1) (hN : (X 0).1 ≤ 3072) (hI : Inv μ) (kk : ∀ μ2, Inv μ2 → WP X mL_law 1737 L [] μ2 Q) : WP X mL_law 1248 L [] μ Q := by
  refine wp_aload_n (pc := 1248) dL_law_1248 (by first | rfl | assumption | (repeat first | assumption | rfl | refine aG_n ?_ rfl rfl)) ?_
  refine wp_eload_n (pc := 1249) dL_law_1249 (by first | rfl | assumption | (repeat first | assumption | rfl | refine aG_n ?_ rfl rfl)) ?_
  refine wp_iload_n (pc := 1250) dL_law_1250 (by first | rfl | assumption | (repeat first | assumption | rfl | refine aG_n ?_ rfl rfl)) ?_
  refine wp_iconst (pc := 1251) (v := 1) dL_law_1251 (by decide) ?_
  refine wp_iadd (pc := 1252) dL_law_1252 ?_
  refine wp_sald (pc := 1253) dL_law_1253 (show vp_in (nI (6 * t) + nI 1) (X 0).1 by rw [nI_add]; exact vp_in_nI (by omega) (by omega)) ?_
  refine wp_eload_n (pc := 1254) dL_law_1254 (by first | rfl | assumption | (repeat first | assumption | rfl | refine aG_n ?_ rfl rfl)) ?_
  refine wp_iload_n (pc := 1255) dL_law_1255 (by first | rfl | assumption | (repeat first | assumption | rfl | refine aG_n ?_ rfl rfl)) ?_
  refine wp_iconst (pc := 1256) (v := 2) dL_law_1256 (by decide) ?_
  refine wp_iadd (pc := 1257) dL_law_1257 ?_
  refine wp_sald (pc := 1258) dL_law_1258 (show vp_in (nI (6 * t) + nI 2) (X 0).1 by rw [nI_add]; exact vp_in_nI (by omega) (by omega)) ?_
  refine wp_eload_n (pc := 1259) dL_law_1259 (by first | rfl | assumption | (repeat first | assumption | rfl | refine aG_n ?_ rfl rfl)) ?_
  refine wp_iload_n (pc := 1260) dL_law_1260 (by first | rfl | assumption | (repeat first | assumption | rfl | refine aG_n ?_ rfl rfl)) ?_
  refine wp_iconst (pc := 1261) (v := 3) dL_law_1261 (by decide) ?_
  refine wp_iadd (pc := 1262) dL_law_1262 ?_
  refine wp_sald (pc := 1263) dL_law_1263 (show vp_in (nI (6 * t) + nI 3) (X 0).1 by rw [nI_add]; exact vp_in_nI (by omega) (by omega)) ?_
  refine wp_cV (pc := 1264) dL_law_1264 lk_13_147 rfl (by decide) rfl (by first | rfl | assumption | exact sh_house (by omega) | exact sh_wish (by omega) | exact sh_wor (by omega) | exact sh_bar (by omega) | exact sh_term (by omega) | exact sh_sheet (by omega) | exact sh_items (by omega) | exact sh_sums (by omega)) rfl rfl ((hJ _ _ _) _ _ _ hI (fun v9 μ9 hm => aK_i ?_))
  refine wp_aload_n (pc := 1267) dL_law_1267 (by first | rfl | assumption | (repeat first | assumption | rfl | refine aG_n ?_ rfl rfl)) ?_
  refine wp_eload_n (pc := 1268) dL_law_1268 (by first | rfl | assumption | (repeat first | assumption | rfl | refine aG_n ?_ rfl rfl)) ?_
  refine wp_iload_n (pc := 1269) dL_law_1269 (by first | rfl | assumption | (repeat first | assumption | rfl | refine aG_n ?_ rfl rfl)) ?_
  refine wp_iconst (pc := 1270) (v := 1) dL_law_1270 (by decide) ?_
  refine wp_iadd (pc := 1271) dL_law_1271 ?_
  refine wp_sald (pc := 1272) dL_law_1272 (show vp_in (nI (6 * t) + nI 1) (X 0).1 by rw [nI_add]; exact vp_in_nI (by omega) (by omega)) ?_
  refine wp_eload_n (pc := 1273) dL_law_1273 (by first | rfl | assumption | (repeat first | assumption | rfl | refine aG_n ?_ rfl rfl)) ?_
  refine wp_iload_n (pc := 1274) dL_law_1274 (by first | rfl | assumption | (repeat first | assumption | rfl | refine aG_n ?_ rfl rfl)) ?_
  refine wp_iconst (pc := 1275) (v := 2) dL_law_1275 (by decide) ?_
  refine wp_iadd (pc := 1276) dL_law_1276 ?_
  refine wp_sald (pc := 1277) dL_law_1277 (show vp_in (nI (6 * t) + nI 2) (X 0).1 by rw [nI_add]; exact vp_in_nI (by omega) (by omega)) ?_
  refine wp_eload_n (pc := 1278) dL_law_1278 (by first | rfl | assumption | (repeat first | assumption | rfl | refine aG_n ?_ rfl rfl)) ?_
  refine wp_iload_n (pc := 1279) dL_law_1279 (by first | rfl | assumption | (repeat first | assumption | rfl | refine aG_n ?_ rfl rfl)) ?_
  refine wp_iconst (pc := 1280) (v := 3) dL_law_1280 (by decide) ?_
  refine wp_iadd (pc := 1281) dL_law_1281 ?_
  refine wp_sald (pc := 1282) dL_law_1282 (show vp_in (nI (6 * t) + nI 3) (X 0).1 by rw [nI_add]; exact vp_in_nI (by omega) (by omega)) ?_
  refine wp_cV (pc := 1283) dL_law_1283 lk_13_150 rfl (by decide) rfl (by first | rfl | assumption | exact sh_house (by omega) | exact sh_wish (by omega) | exact sh_wor (by omega) | exact sh_bar (by omega) | exact sh_term (by omega) | exact sh_sheet (by omega) | exact sh_items (by omega) | exact sh_sums (by omega)) rfl rfl (hm _ (fun μ8 hI8 => aK_i ?_))
  refine wp_icmp_eq (pc := 1286) (tgt := 1737) dL_law_1286 rfl (fun _ => ?_) (fun q => absurd rfl q)
  exact kk _ hI8
theorem law_pay (hJ : ∀ (x0 : Int32) (x1 : Int32), Jnt mX11_pay mX12_pay [.int x0, .int x1]) (g0 : aL_get L 0 = some (.retAddr 0)) (g1 : aL_get L 1 = some (.ref 0)) (g2 : aL_get L 2 = some (.ref 86)) (g3 : aL_get L 3 = some (.int (nI (6 * t)))) (hb : 6 * t + 6 ≤ (X 0).1) (hN : (X 0).1 ≤ 3072) (hI : Inv μ) (kk : ∀ μ2, Inv μ2 → WP X mL_law 1737 L [] μ2 Q) : WP X mL_law 1291 L [] μ Q := by
  refine wp_aload_n (pc := 1291) dL_law_1291 (by first | rfl | assumption | (repeat first | assumption | rfl | refine aG_n ?_ rfl rfl)) ?_
  refine wp_eload_n (pc := 1292) dL_law_1292 (by first | rfl | assumption | (repeat first | assumption | rfl | refine aG_n ?_ rfl rfl)) ?_
  refine wp_iload_n (pc := 1293) dL_law_1293 (by first | rfl | assumption | (repeat first | assumption | rfl | refine aG_n ?_ rfl rfl)) ?_
  refine wp_iconst (pc := 1294) (v := 1) dL_law_1294 (by decide) ?_
  refine wp_iadd (pc := 1295) dL_law_1295 ?_
  refine wp_sald (pc := 1296) dL_law_1296 (show vp_in (nI (6 * t) + nI 1) (X 0).1 by rw [nI_add]; exact vp_in_nI (by omega) (by omega)) ?_
  refine wp_eload_n (pc := 1297) dL_law_1297 (by first | rfl | assumption | (repeat first | assumption | rfl | refine aG_n ?_ rfl rfl)) ?_
  refine wp_iload_n (pc := 1298) dL_law_1298 (by first | rfl | assumption | (repeat first | assumption | rfl | refine aG_n ?_ rfl rfl)) ?_
  refine wp_iconst (pc := 1299) (v := 2) dL_law_1299 (by decide) ?_
  refine wp_iadd (pc := 1300) dL_law_1300 ?_
  refine wp_sald (pc := 1301) dL_law_1301 (show vp_in (nI (6 * t) + nI 2) (X 0).1 by rw [nI_add]; exact vp_in_nI (by omega) (by omega)) ?_
  refine wp_cV (pc := 1302) dL_law_1302 lk_13_151 rfl (by decide) rfl (by first | rfl | assumption | exact sh_house (by omega) | exact sh_wish (by omega) | exact sh_wor (by omega) | exact sh_bar (by omega) | exact sh_term (by omega) | exact sh_sheet (by omega) | exact sh_items (by omega) | exact sh_sums (by omega)) rfl rfl ((hJ _ _) _ _ _ hI (fun v9 μ9 hm => aK_i ?_))
  refine wp_aload_n (pc := 1305) dL_law_1305 (by first | rfl | assumption | (repeat first | assumption | rfl | refine aG_n ?_ rfl rfl)) ?_
  refine wp_eload_n (pc := 1306) dL_law_1306 (by first | rfl | assumption | (repeat first | assumption | rfl | refine aG_n ?_ rfl rfl)) ?_
  refine wp_iload_n (pc := 1307) dL_law_1307 (by first | rfl | assumption | (repeat first | assumption | rfl | refine aG_n ?_ rfl rfl)) ?_
  refine wp_iconst (pc := 1308) (v := 1) dL_law_1308 (by decide) ?_
  refine wp_iadd (pc := 1309) dL_law_1309 ?_
  refine wp_sald (pc := 1310) dL_law_1310 (show vp_in (nI (6 * t) + nI 1) (X 0).1 by rw [nI_add]; exact vp_in_nI (by omega) (by omega)) ?_
  refine wp_eload_n (pc := 1311) dL_law_1311 (by first | rfl | assumption | (repeat first | assumption | rfl | refine aG_n ?_ rfl rfl)) ?_
  refine wp_iload_n (pc := 1312) dL_law_1312 (by first | rfl | assumption | (repeat first | assumption | rfl | refine aG_n ?_ rfl rfl)) ?_
  refine wp_iconst (pc := 1313) (v := 2) dL_law_1313 (by decide) ?_
  refine wp_iadd (pc := 1314) dL_law_1314 ?_
  refine wp_sald (pc := 1315) dL_law_1315 (show vp_in (nI (6 * t) + nI 2) (X 0).1 by rw [nI_add]; exact vp_in_nI (by omega) (by omega)) ?_
  refine wp_cV (pc := 1316) dL_law_1316 lk_13_154 rfl (by decide) rfl (by first | rfl | assumption | exact sh_house (by omega) | exact sh_wish (by omega) | exact sh_wor (by omega) | exact sh_bar (by omega) | exact sh_term (by omega) | exact sh_sheet (by omega) | exact sh_items (by omega) | exact sh_sums (by omega)) rfl rfl (hm _ (fun μ8 hI8 => aK_i ?_))
  refine wp_icmp_eq (pc := 1319) (tgt := 1737) dL_law_1319 rfl (fun _ => ?_) (fun q => absurd rfl q)
  exact kk _ hI8
theorem law_state (hJ : ∀ (x0 : Int32) (x1 : Int32), Jnt mX11_state mX12_state [.int x0, .int x1]) (g0 : aL_get L 0 = some (.retAddr 0)) (g1 : aL_get L 1 = some (.ref 0)) (g2 : aL_get L 2 = some (.ref 86)) (g3 : aL_get L 3 = some (.int (nI (6 * t)))) (hb : 6 * t + 6 ≤ (X 0).1) (hN : (X 0).1 ≤ 3072) (hI : Inv μ) (kk : ∀ μ2, Inv μ2 → WP X mL_law 1737 L [] μ2 Q) : WP X mL_law 1324 L [] μ Q := by
  refine wp_aload_n (pc := 1324) dL_law_1324 (by first | rfl | assumption | (repeat first | assumption | rfl | refine aG_n ?_ rfl rfl)) ?_
  refine wp_eload_n (pc := 1325) dL_law_1325 (by first | rfl | assumption | (repeat first | assumption | rfl | refine aG_n ?_ rfl rfl)) ?_
  refine wp_iload_n (pc := 1326) dL_law_1326 (by first | rfl | assumption | (repeat first | assumption | rfl | refine aG_n ?_ rfl rfl)) ?_
  refine wp_iconst (pc := 1327) (v := 1) dL_law_1327 (by decide) ?_
  refine wp_iadd (pc := 1328) dL_law_1328 ?_
  refine wp_sald (pc := 1329) dL_law_1329 (show vp_in (nI (6 * t) + nI 1) (X 0).1 by rw [nI_add]; exact vp_in_nI (by omega) (by omega)) ?_
  refine wp_eload_n (pc := 1330) dL_law_1330 (by first | rfl | assumption | (repeat first | assumption | rfl | refine aG_n ?_ rfl rfl)) ?_
  refine wp_iload_n (pc := 1331) dL_law_1331 (by first | rfl | assumption | (repeat first | assumption | rfl | refine aG_n ?_ rfl rfl)) ?_
  refine wp_iconst (pc := 1332) (v := 2) dL_law_1332 (by decide) ?_
  refine wp_iadd (pc := 1333) dL_law_1333 ?_
  refine wp_sald (pc := 1334) dL_law_1334 (show vp_in (nI (6 * t) + nI 2) (X 0).1 by rw [nI_add]; exact vp_in_nI (by omega) (by omega)) ?_
  refine wp_cV (pc := 1335) dL_law_1335 lk_13_155 rfl (by decide) rfl (by first | rfl | assumption | exact sh_house (by omega) | exact sh_wish (by omega) | exact sh_wor (by omega) | exact sh_bar (by omega) | exact sh_term (by omega) | exact sh_sheet (by omega) | exact sh_items (by omega) | exact sh_sums (by omega)) rfl rfl ((hJ _ _) _ _ _ hI (fun v9 μ9 hm => aK_i ?_))
  refine wp_aload_n (pc := 1338) dL_law_1338 (by first | rfl | assumption | (repeat first | assumption | rfl | refine aG_n ?_ rfl rfl)) ?_
  refine wp_eload_n (pc := 1339) dL_law_1339 (by first | rfl | assumption | (repeat first | assumption | rfl | refine aG_n ?_ rfl rfl)) ?_
  refine wp_iload_n (pc := 1340) dL_law_1340 (by first | rfl | assumption | (repeat first | assumption | rfl | refine aG_n ?_ rfl rfl)) ?_
  refine wp_iconst (pc := 1341) (v := 1) dL_law_1341 (by decide) ?_
  refine wp_iadd (pc := 1342) dL_law_1342 ?_
  refine wp_sald (pc := 1343) dL_law_1343 (show vp_in (nI (6 * t) + nI 1) (X 0).1 by rw [nI_add]; exact vp_in_nI (by omega) (by omega)) ?_
  refine wp_eload_n (pc := 1344) dL_law_1344 (by first | rfl | assumption | (repeat first | assumption | rfl | refine aG_n ?_ rfl rfl)) ?_
  refine wp_iload_n (pc := 1345) dL_law_1345 (by first | rfl | assumption | (repeat first | assumption | rfl | refine aG_n ?_ rfl rfl)) ?_
  refine wp_iconst (pc := 1346) (v := 2) dL_law_1346 (by decide) ?_
  refine wp_iadd (pc := 1347) dL_law_1347 ?_
  refine wp_sald (pc := 1348) dL_law_1348 (show vp_in (nI (6 * t) + nI 2) (X 0).1 by rw [nI_add]; exact vp_in_nI (by omega) (by omega)) ?_
  refine wp_cV (pc := 1349) dL_law_1349 lk_13_158 rfl (by decide) rfl (by first | rfl | assumption | exact sh_house (by omega) | exact sh_wish (by omega) | exact sh_wor (by omega) | exact sh_bar (by omega) | exact sh_term (by omega) | exact sh_sheet (by omega) | exact sh_items (by omega) | exact sh_sums (by omega)) rfl rfl (hm _ (fun μ8 hI8 => aK_i ?_))
  refine wp_icmp_eq (pc := 1352) (tgt := 1737) dL_law_1352 rfl (fun _ => ?_) (fun q => absurd rfl q)
  exact kk _ hI8
theorem law_end (hJ : ∀ (x0 : Int32) (x1 : Int32), Jnt mX11_end mX12_end [.int x0, .int x1]) (g0 : aL_get L 0 = some (.retAddr 0)) (g1 : aL_get L 1 = some (.ref 0)) (g2 : aL_get L 2 = some (.ref 86)) (g3 : aL_get L 3 = some (.int (nI (6 * t)))) (hb : 6 * t + 6 ≤ (X 0).1) (hN : (X 0).1 ≤ 3072) (hI : Inv μ) (kk : ∀ μ2, Inv μ2 → WP X mL_law 1737 L [] μ2 Q) : WP X mL_law 1357 L [] μ Q := by
  refine wp_aload_n (pc := 1357) dL_law_1357 (by first | rfl | assumption | (repeat first | assumption | rfl | refine aG_n ?_ rfl rfl)) ?_
  refine wp_eload_n (pc := 1358) dL_law_1358 (by first | rfl | assumption | (repeat first | assumption | rfl | refine aG_n ?_ rfl rfl)) ?_
  refine wp_iload_n (pc := 1359) dL_law_1359 (by first | rfl | assumption | (repeat first | assumption | rfl | refine aG_n ?_ rfl rfl)) ?_
  refine wp_iconst (pc := 1360) (v := 1) dL_law_1360 (by decide) ?_
  refine wp_iadd (pc := 1361) dL_law_1361 ?_
  refine wp_sald (pc := 1362) dL_law_1362 (show vp_in (nI (6 * t) + nI 1) (X 0).1 by rw [nI_add]; exact vp_in_nI (by omega) (by omega)) ?_
  refine wp_eload_n (pc := 1363) dL_law_1363 (by first | rfl | assumption | (repeat first | assumption | rfl | refine aG_n ?_ rfl rfl)) ?_
  refine wp_iload_n (pc := 1364) dL_law_1364 (by first | rfl | assumption | (repeat first | assumption | rfl | refine aG_n ?_ rfl rfl)) ?_
  refine wp_iconst (pc := 1365) (v := 2) dL_law_1365 (by decide) ?_
  refine wp_iadd (pc := 1366) dL_law_1366 ?_
  refine wp_sald (pc := 1367) dL_law_1367 (show vp_in (nI (6 * t) + nI 2) (X 0).1 by rw [nI_add]; exact vp_in_nI (by omega) (by omega)) ?_
  refine wp_cV (pc := 1368) dL_law_1368 lk_13_159 rfl (by decide) rfl (by first | rfl | assumption | exact sh_house (by omega) | exact sh_wish (by omega) | exact sh_wor (by omega) | exact sh_bar (by omega) | exact sh_term (by omega) | exact sh_sheet (by omega) | exact sh_items (by omega) | exact sh_sums (by omega)) rfl rfl ((hJ _ _) _ _ _ hI (fun v9 μ9 hm => aK_i ?_))
  refine wp_aload_n (pc := 1371) dL_law_1371 (by first | rfl | assumption | (repeat first | assumption | rfl | refine aG_n ?_ rfl rfl)) ?_
  refine wp_eload_n (pc := 1372) dL_law_1372 (by first | rfl | assumption | (repeat first | assumption | rfl | refine aG_n ?_ rfl rfl)) ?_
  refine wp_iload_n (pc := 1373) dL_law_1373 (by first | rfl | assumption | (repeat first | assumption | rfl | refine aG_n ?_ rfl rfl)) ?_
  refine wp_iconst (pc := 1374) (v := 1) dL_law_1374 (by decide) ?_
  refine wp_iadd (pc := 1375) dL_law_1375 ?_
  refine wp_sald (pc := 1376) dL_law_1376 (show vp_in (nI (6 * t) + nI 1) (X 0).1 by rw [nI_add]; exact vp_in_nI (by omega) (by omega)) ?_
  refine wp_eload_n (pc := 1377) dL_law_1377 (by first | rfl | assumption | (repeat first | assumption | rfl | refine aG_n ?_ rfl rfl)) ?_
  refine wp_iload_n (pc := 1378) dL_law_1378 (by first | rfl | assumption | (repeat first | assumption | rfl | refine aG_n ?_ rfl rfl)) ?_
  refine wp_iconst (pc := 1379) (v := 2) dL_law_1379 (by decide) ?_
  refine wp_iadd (pc := 1380) dL_law_1380 ?_
  refine wp_sald (pc := 1381) dL_law_1381 (show vp_in (nI (6 * t) + nI 2) (X 0).1 by rw [nI_add]; exact vp_in_nI (by omega) (by omega)) ?_
  refine wp_cV (pc := 1382) dL_law_1382 lk_13_162 rfl (by decide) rfl (by first | rfl | assumption | exact sh_house (by omega) | exact sh_wish (by omega) | exact sh_wor (by omega) | exact sh_bar (by omega) | exact sh_term (by omega) | exact sh_sheet (by omega) | exact sh_items (by omega) | exact sh_sums (by omega)) rfl rfl (hm _ (fun μ8 hI8 => aK_i ?_))
  refine wp_icmp_eq (pc := 1385) (tgt := 1737) dL_law_1385 rfl (fun _ => ?_) (fun q => absurd rfl q)
  exact kk _ hI8
theorem law_owes (hJ : ∀ (x0 : Int32) (x1 : Int32), Jnt mX11_owes mX12_owes [.int x0, .int x1]) (g0 : aL_get L 0 = some (.retAddr 0)) (g1 : aL_get L 1 = some (.ref 0)) (g2 : aL_get L 2 = some (.ref 86)) (g3 : aL_get L 3 = some (.int (nI (6 * t)))) (hb : 6 * t + 6 ≤ (X 0).1) (hN : (X 0).1 ≤ 3072) (hI : Inv μ) (kk : ∀ μ2, Inv μ2 → WP X mL_law 1737 L [] μ2 Q) : WP X mL_law 1390 L [] μ Q := by
  refine wp_aload_n (pc := 1390) dL_law_1390 (by first | rfl | assumption | (repeat first | assumption | rfl | refine aG_n ?_ rfl rfl)) ?_
  refine wp_eload_n (pc := 1391) dL_law_1391 (by first | rfl | assumption | (repeat first | assumption | rfl | refine aG_n ?_ rfl rfl)) ?_
  refine wp_iload_n (pc := 1392) dL_law_1392 (by first | rfl | assumption | (repeat first | assumption | rfl | refine aG_n ?_ rfl rfl)) ?_
  refine wp_iconst (pc := 1393) (v := 1) dL_law_1393 (by decide) ?_
  refine wp_iadd (pc := 1394) dL_law_1394 ?_
  refine wp_sald (pc := 1395) dL_law_1395 (show vp_in (nI (6 * t) + nI 1) (X 0).1 by rw [nI_add]; exact vp_in_nI (by omega) (by omega)) ?_
  refine wp_eload_n (pc := 1396) dL_law_1396 (by first | rfl | assumption | (repeat first | assumption | rfl | refine aG_n ?_ rfl rfl)) ?_
  refine wp_iload_n (pc := 1397) dL_law_1397 (by first | rfl | assumption | (repeat first | assumption | rfl | refine aG_n ?_ rfl rfl)) ?_
  refine wp_iconst (pc := 1398) (v := 2) dL_law_1398 (by decide) ?_
  refine wp_iadd (pc := 1399) dL_law_1399 ?_
  refine wp_sald (pc := 1400) dL_law_1400 (show vp_in (nI (6 * t) + nI 2) (X 0).1 by rw [nI_add]; exact vp_in_nI (by omega) (by omega)) ?_
  refine wp_cV (pc := 1401) dL_law_1401 lk_13_163 rfl (by decide) rfl (by first | rfl | assumption | exact sh_house (by omega) | exact sh_wish (by omega) | exact sh_wor (by omega) | exact sh_bar (by omega) | exact sh_term (by omega) | exact sh_sheet (by omega) | exact sh_items (by omega) | exact sh_sums (by omega)) rfl rfl ((hJ _ _) _ _ _ hI (fun v9 μ9 hm => aK_i ?_))
  refine wp_aload_n (pc := 1404) dL_law_1404 (by first | rfl | assumption | (repeat first | assumption | rfl | refine aG_n ?_ rfl rfl)) ?_
  refine wp_eload_n (pc := 1405) dL_law_1405 (by first | rfl | assumption | (repeat first | assumption | rfl | refine aG_n ?_ rfl rfl)) ?_
  refine wp_iload_n (pc := 1406) dL_law_1406 (by first | rfl | assumption | (repeat first | assumption | rfl | refine aG_n ?_ rfl rfl)) ?_
  refine wp_iconst (pc := 1407) (v := 1) dL_law_1407 (by decide) ?_
  refine wp_iadd (pc := 1408) dL_law_1408 ?_
  refine wp_sald (pc := 1409) dL_law_1409 (show vp_in (nI (6 * t) + nI 1) (X 0).1 by rw [nI_add]; exact vp_in_nI (by omega) (by omega)) ?_
  refine wp_eload_n (pc := 1410) dL_law_1410 (by first | rfl | assumption | (repeat first | assumption | rfl | refine aG_n ?_ rfl rfl)) ?_
  refine wp_iload_n (pc := 1411) dL_law_1411 (by first | rfl | assumption | (repeat first | assumption | rfl | refine aG_n ?_ rfl rfl)) ?_
  refine wp_iconst (pc := 1412) (v := 2) dL_law_1412 (by decide) ?_
  refine wp_iadd (pc := 1413) dL_law_1413 ?_
  refine wp_sald (pc := 1414) dL_law_1414 (show vp_in (nI (6 * t) + nI 2) (X 0).1 by rw [nI_add]; exact vp_in_nI (by omega) (by omega)) ?_
  refine wp_cV (pc := 1415) dL_law_1415 lk_13_166 rfl (by decide) rfl (by first | rfl | assumption | exact sh_house (by omega) | exact sh_wish (by omega) | exact sh_wor (by omega) | exact sh_bar (by omega) | exact sh_term (by omega) | exact sh_sheet (by omega) | exact sh_items (by omega) | exact sh_sums (by omega)) rfl rfl (hm _ (fun μ8 hI8 => aK_i ?_))
  refine wp_icmp_eq (pc := 1418) (tgt := 1737) dL_law_1418 rfl (fun _ => ?_) (fun q => absurd rfl q)
  exact kk _ hI8
theorem law_row (hJ : ∀ (x0 : Int32) (x1 : Int32), Jnt mX11_row mX12_row [.int x0, .int x1]) (g0 : aL_get L 0 = some (.retAddr 0)) (g1 : aL_get L 1 = some (.ref 0)) (g2 : aL_get L 2 = some (.ref 86)) (g3 : aL_get L 3 = some (.int (nI (6 * t)))) (hb : 6 * t + 6 ≤ (X 0).1) (hN : (X 0).1 ≤ 3072) (hI : Inv μ) (kk : ∀ μ2, Inv μ2 → WP X mL_law 1737 L [] μ2 Q) : WP X mL_law 1423 L [] μ Q := by
  refine wp_aload_n (pc := 1423) dL_law_1423 (by first | rfl | assumption | (repeat first | assumption | rfl | refine aG_n ?_ rfl rfl)) ?_
  refine wp_eload_n (pc := 1424) dL_law_1424 (by first | rfl | assumption | (repeat first | assumption | rfl | refine aG_n ?_ rfl rfl)) ?_
  refine wp_iload_n (pc := 1425) dL_law_1425 (by first | rfl | assumption | (repeat first | assumption | rfl | refine aG_n ?_ rfl rfl)) ?_
  refine wp_iconst (pc := 1426) (v := 1) dL_law_1426 (by decide) ?_
  refine wp_iadd (pc := 1427) dL_law_1427 ?_
  refine wp_sald (pc := 1428) dL_law_1428 (show vp_in (nI (6 * t) + nI 1) (X 0).1 by rw [nI_add]; exact vp_in_nI (by omega) (by omega)) ?_
  refine wp_eload_n (pc := 1429) dL_law_1429 (by first | rfl | assumption | (repeat first | assumption | rfl | refine aG_n ?_ rfl rfl)) ?_
  refine wp_iload_n (pc := 1430) dL_law_1430 (by first | rfl | assumption | (repeat first | assumption | rfl | refine aG_n ?_ rfl rfl)) ?_
  refine wp_iconst (pc := 1431) (v := 2) dL_law_1431 (by decide) ?_
  refine wp_iadd (pc := 1432) dL_law_1432 ?_
  refine wp_sald (pc := 1433) dL_law_1433 (show vp_in (nI (6 * t) + nI 2) (X 0).1 by rw [nI_add]; exact vp_in_nI (by omega) (by omega)) ?_
  refine wp_cV (pc := 1434) dL_law_1434 lk_13_167 rfl (by decide) rfl (by first | rfl | assumption | exact sh_house (by omega) | exact sh_wish (by omega) | exact sh_wor (by omega) | exact sh_bar (by omega) | exact sh_term (by omega) | exact sh_sheet (by omega) | exact sh_items (by omega) | exact sh_sums (by omega)) rfl rfl ((hJ _ _) _ _ _ hI (fun v9 μ9 hm => aK_i ?_))
  refine wp_aload_n (pc := 1437) dL_law_1437 (by first | rfl | assumption | (repeat first | assumption | rfl | refine aG_n ?_ rfl rfl)) ?_
  refine wp_eload_n (pc := 1438) dL_law_1438 (by first | rfl | assumption | (repeat first | assumption | rfl | refine aG_n ?_ rfl rfl)) ?_
  refine wp_iload_n (pc := 1439) dL_law_1439 (by first | rfl | assumption | (repeat first | assumption | rfl | refine aG_n ?_ rfl rfl)) ?_
  refine wp_iconst (pc := 1440) (v := 1) dL_law_1440 (by decide) ?_
  refine wp_iadd (pc := 1441) dL_law_1441 ?_
  refine wp_sald (pc := 1442) dL_law_1442 (show vp_in (nI (6 * t) + nI 1) (X 0).1 by rw [nI_add]; exact vp_in_nI (by omega) (by omega)) ?_
  refine wp_eload_n (pc := 1443) dL_law_1443 (by first | rfl | assumption | (repeat first | assumption | rfl | refine aG_n ?_ rfl rfl)) ?_
  refine wp_iload_n (pc := 1444) dL_law_1444 (by first | rfl | assumption | (repeat first | assumption | rfl | refine aG_n ?_ rfl rfl)) ?_
  refine wp_iconst (pc := 1445) (v := 2) dL_law_1445 (by decide) ?_
  refine wp_iadd (pc := 1446) dL_law_1446 ?_
  refine wp_sald (pc := 1447) dL_law_1447 (show vp_in (nI (6 * t) + nI 2) (X 0).1 by rw [nI_add]; exact vp_in_nI (by omega) (by omega)) ?_
  refine wp_cV (pc := 1448) dL_law_1448 lk_13_170 rfl (by decide) rfl (by first | rfl | assumption | exact sh_house (by omega) | exact sh_wish (by omega) | exact sh_wor (by omega) | exact sh_bar (by omega) | exact sh_term (by omega) | exact sh_sheet (by omega) | exact sh_items (by omega) | exact sh_sums (by omega)) rfl rfl (hm _ (fun μ8 hI8 => aK_i ?_))
  refine wp_icmp_eq (pc := 1451) (tgt := 1737) dL_law_1451 rfl (fun _ => ?_) (fun q => absurd rfl q)
  exact kk _ hI8
theorem law_root (hJ : Jnt mX11_root mX12_root []) (g0 : aL_get L 0 = some (.retAddr 0)) (g1 : aL_get L 1 = some (.ref 0)) (g2 : aL_get L 2 = some (.ref 86)) (g3 : aL_get L 3 = some (.int (nI (6 * t)))) (hb : 6 * t + 6 ≤ (X 0).1) (hN : (X 0).1 ≤ 3072) (hI : Inv μ) (kk : ∀ μ2, Inv μ2 → WP X mL_law 1737 L [] μ2 Q) : WP X mL_law 1456 L [] μ Q := by
  refine wp_aload_n (pc := 1456) dL_law_1456 (by first | rfl | assumption | (repeat first | assumption | rfl | refine aG_n ?_ rfl rfl)) ?_
  refine wp_cV (pc := 1457) dL_law_1457 lk_13_171 rfl (by decide) rfl (by first | rfl | assumption | exact sh_house (by omega) | exact sh_wish (by omega) | exact sh_wor (by omega) | exact sh_bar (by omega) | exact sh_term (by omega) | exact sh_sheet (by omega) | exact sh_items (by omega) | exact sh_sums (by omega)) rfl rfl ((hJ) _ _ _ hI (fun v9 μ9 hm => aK_i ?_))
  refine wp_aload_n (pc := 1460) dL_law_1460 (by first | rfl | assumption | (repeat first | assumption | rfl | refine aG_n ?_ rfl rfl)) ?_
  refine wp_cV (pc := 1461) dL_law_1461 lk_13_174 rfl (by decide) rfl (by first | rfl | assumption | exact sh_house (by omega) | exact sh_wish (by omega) | exact sh_wor (by omega) | exact sh_bar (by omega) | exact sh_term (by omega) | exact sh_sheet (by omega) | exact sh_items (by omega) | exact sh_sums (by omega)) rfl rfl (hm _ (fun μ8 hI8 => aK_i ?_))
  refine wp_icmp_eq (pc := 1464) (tgt := 1737) dL_law_1464 rfl (fun _ => ?_) (fun q => absurd rfl q)
  exact kk _ hI8
theorem law_proof (hJ : ∀ (x0 : Int32) (x1 : Int32), Jnt mX11_proof mX12_proof [.int x0, .int x1]) (g0 : aL_get L 0 = some (.retAddr 0)) (g1 : aL_get L 1 = some (.ref 0)) (g2 : aL_get L 2 = some (.ref 86)) (g3 : aL_get L 3 = some (.int (nI (6 * t)))) (hb : 6 * t + 6 ≤ (X 0).1) (hN : (X 0).1 ≤ 3072) (hI : Inv μ) (kk : ∀ μ2, Inv μ2 → WP X mL_law 1737 L [] μ2 Q) : WP X mL_law 1469 L [] μ Q := by
  refine wp_aload_n (pc := 1469) dL_law_1469 (by first | rfl | assumption | (repeat first | assumption | rfl | refine aG_n ?_ rfl rfl)) ?_
  refine wp_eload_n (pc := 1470) dL_law_1470 (by first | rfl | assumption | (repeat first | assumption | rfl | refine aG_n ?_ rfl rfl)) ?_
  refine wp_iload_n (pc := 1471) dL_law_1471 (by first | rfl | assumption | (repeat first | assumption | rfl | refine aG_n ?_ rfl rfl)) ?_
  refine wp_iconst (pc := 1472) (v := 1) dL_law_1472 (by decide) ?_
  refine wp_iadd (pc := 1473) dL_law_1473 ?_
  refine wp_sald (pc := 1474) dL_law_1474 (show vp_in (nI (6 * t) + nI 1) (X 0).1 by rw [nI_add]; exact vp_in_nI (by omega) (by omega)) ?_
  refine wp_eload_n (pc := 1475) dL_law_1475 (by first | rfl | assumption | (repeat first | assumption | rfl | refine aG_n ?_ rfl rfl)) ?_
  refine wp_iload_n (pc := 1476) dL_law_1476 (by first | rfl | assumption | (repeat first | assumption | rfl | refine aG_n ?_ rfl rfl)) ?_
  refine wp_iconst (pc := 1477) (v := 2) dL_law_1477 (by decide) ?_
  refine wp_iadd (pc := 1478) dL_law_1478 ?_
  refine wp_sald (pc := 1479) dL_law_1479 (show vp_in (nI (6 * t) + nI 2) (X 0).1 by rw [nI_add]; exact vp_in_nI (by omega) (by omega)) ?_
  refine wp_cV (pc := 1480) dL_law_1480 lk_13_175 rfl (by decide) rfl (by first | rfl | assumption | exact sh_house (by omega) | exact sh_wish (by omega) | exact sh_wor (by omega) | exact sh_bar (by omega) | exact sh_term (by omega) | exact sh_sheet (by omega) | exact sh_items (by omega) | exact sh_sums (by omega)) rfl rfl ((hJ _ _) _ _ _ hI (fun v9 μ9 hm => aK_i ?_))
  refine wp_aload_n (pc := 1483) dL_law_1483 (by first | rfl | assumption | (repeat first | assumption | rfl | refine aG_n ?_ rfl rfl)) ?_
  refine wp_eload_n (pc := 1484) dL_law_1484 (by first | rfl | assumption | (repeat first | assumption | rfl | refine aG_n ?_ rfl rfl)) ?_
  refine wp_iload_n (pc := 1485) dL_law_1485 (by first | rfl | assumption | (repeat first | assumption | rfl | refine aG_n ?_ rfl rfl)) ?_
  refine wp_iconst (pc := 1486) (v := 1) dL_law_1486 (by decide) ?_
  refine wp_iadd (pc := 1487) dL_law_1487 ?_
  refine wp_sald (pc := 1488) dL_law_1488 (show vp_in (nI (6 * t) + nI 1) (X 0).1 by rw [nI_add]; exact vp_in_nI (by omega) (by omega)) ?_
  refine wp_eload_n (pc := 1489) dL_law_1489 (by first | rfl | assumption | (repeat first | assumption | rfl | refine aG_n ?_ rfl rfl)) ?_
  refine wp_iload_n (pc := 1490) dL_law_1490 (by first | rfl | assumption | (repeat first | assumption | rfl | refine aG_n ?_ rfl rfl)) ?_
  refine wp_iconst (pc := 1491) (v := 2) dL_law_1491 (by decide) ?_
  refine wp_iadd (pc := 1492) dL_law_1492 ?_
  refine wp_sald (pc := 1493) dL_law_1493 (show vp_in (nI (6 * t) + nI 2) (X 0).1 by rw [nI_add]; exact vp_in_nI (by omega) (by omega)) ?_
  refine wp_cV (pc := 1494) dL_law_1494 lk_13_178 rfl (by decide) rfl (by first | rfl | assumption | exact sh_house (by omega) | exact sh_wish (by omega) | exact sh_wor (by omega) | exact sh_bar (by omega) | exact sh_term (by omega) | exact sh_sheet (by omega) | exact sh_items (by omega) | exact sh_sums (by omega)) rfl rfl (hm _ (fun μ8 hI8 => aK_i ?_))
  refine wp_icmp_eq (pc := 1497) (tgt := 1737) dL_law_1497 rfl (fun _ => ?_) (fun q => absurd rfl q)
  exact kk _ hI8
theorem law_proves (hJ : ∀ (x0 : Int32) (x1 : Int32) (x2 : Int32) (x3 : Int32) (x4 : Int32), Jnt mX11_proves mX12_proves [.int x0, .int x1, .int x2, .int x3, .int x4]) (g0 : aL_get L 0 = some (.retAddr 0)) (g1 : aL_get L 1 = some (.ref 0)) (g2 : aL_get L 2 = some (.ref 86)) (g3 : aL_get L 3 = some (.int (nI (6 * t)))) (hb : 6 * t + 6 ≤ (X 0).1) (hN : (X 0).1 ≤ 3072) (hI : Inv μ) (kk : ∀ μ2, Inv μ2 → WP X mL_law 1737 L [] μ2 Q) : WP X mL_law 1502 L [] μ Q := by
  refine wp_aload_n (pc := 1502) dL_law_1502 (by first | rfl | assumption | (repeat first | assumption | rfl | refine aG_n ?_ rfl rfl)) ?_
  refine wp_eload_n (pc := 1503) dL_law_1503 (by first | rfl | assumption | (repeat first | assumption | rfl | refine aG_n ?_ rfl rfl)) ?_
  refine wp_iload_n (pc := 1504) dL_law_1504 (by first | rfl | assumption | (repeat first | assumption | rfl | refine aG_n ?_ rfl rfl)) ?_
  refine wp_iconst (pc := 1505) (v := 1) dL_law_1505 (by decide) ?_
  refine wp_iadd (pc := 1506) dL_law_1506 ?_
  refine wp_sald (pc := 1507) dL_law_1507 (show vp_in (nI (6 * t) + nI 1) (X 0).1 by rw [nI_add]; exact vp_in_nI (by omega) (by omega)) ?_
  refine wp_eload_n (pc := 1508) dL_law_1508 (by first | rfl | assumption | (repeat first | assumption | rfl | refine aG_n ?_ rfl rfl)) ?_
  refine wp_iload_n (pc := 1509) dL_law_1509 (by first | rfl | assumption | (repeat first | assumption | rfl | refine aG_n ?_ rfl rfl)) ?_
  refine wp_iconst (pc := 1510) (v := 2) dL_law_1510 (by decide) ?_
  refine wp_iadd (pc := 1511) dL_law_1511 ?_
  refine wp_sald (pc := 1512) dL_law_1512 (show vp_in (nI (6 * t) + nI 2) (X 0).1 by rw [nI_add]; exact vp_in_nI (by omega) (by omega)) ?_
  refine wp_eload_n (pc := 1513) dL_law_1513 (by first | rfl | assumption | (repeat first | assumption | rfl | refine aG_n ?_ rfl rfl)) ?_
  refine wp_iload_n (pc := 1514) dL_law_1514 (by first | rfl | assumption | (repeat first | assumption | rfl | refine aG_n ?_ rfl rfl)) ?_
  refine wp_iconst (pc := 1515) (v := 3) dL_law_1515 (by decide) ?_
  refine wp_iadd (pc := 1516) dL_law_1516 ?_
  refine wp_sald (pc := 1517) dL_law_1517 (show vp_in (nI (6 * t) + nI 3) (X 0).1 by rw [nI_add]; exact vp_in_nI (by omega) (by omega)) ?_
  refine wp_eload_n (pc := 1518) dL_law_1518 (by first | rfl | assumption | (repeat first | assumption | rfl | refine aG_n ?_ rfl rfl)) ?_
  refine wp_iload_n (pc := 1519) dL_law_1519 (by first | rfl | assumption | (repeat first | assumption | rfl | refine aG_n ?_ rfl rfl)) ?_
  refine wp_iconst (pc := 1520) (v := 4) dL_law_1520 (by decide) ?_
  refine wp_iadd (pc := 1521) dL_law_1521 ?_
  refine wp_sald (pc := 1522) dL_law_1522 (show vp_in (nI (6 * t) + nI 4) (X 0).1 by rw [nI_add]; exact vp_in_nI (by omega) (by omega)) ?_
  refine wp_eload_n (pc := 1523) dL_law_1523 (by first | rfl | assumption | (repeat first | assumption | rfl | refine aG_n ?_ rfl rfl)) ?_
  refine wp_iload_n (pc := 1524) dL_law_1524 (by first | rfl | assumption | (repeat first | assumption | rfl | refine aG_n ?_ rfl rfl)) ?_
  refine wp_iconst (pc := 1525) (v := 5) dL_law_1525 (by decide) ?_
  refine wp_iadd (pc := 1526) dL_law_1526 ?_
  refine wp_sald (pc := 1527) dL_law_1527 (show vp_in (nI (6 * t) + nI 5) (X 0).1 by rw [nI_add]; exact vp_in_nI (by omega) (by omega)) ?_
  refine wp_cV (pc := 1528) dL_law_1528 lk_13_179 rfl (by decide) rfl (by first | rfl | assumption | exact sh_house (by omega) | exact sh_wish (by omega) | exact sh_wor (by omega) | exact sh_bar (by omega) | exact sh_term (by omega) | exact sh_sheet (by omega) | exact sh_items (by omega) | exact sh_sums (by omega)) rfl rfl ((hJ _ _ _ _ _) _ _ _ hI (fun v9 μ9 hm => aK_i ?_))
  refine wp_aload_n (pc := 1531) dL_law_1531 (by first | rfl | assumption | (repeat first | assumption | rfl | refine aG_n ?_ rfl rfl)) ?_
  refine wp_eload_n (pc := 1532) dL_law_1532 (by first | rfl | assumption | (repeat first | assumption | rfl | refine aG_n ?_ rfl rfl)) ?_
  refine wp_iload_n (pc := 1533) dL_law_1533 (by first | rfl | assumption | (repeat first | assumption | rfl | refine aG_n ?_ rfl rfl)) ?_
  refine wp_iconst (pc := 1534) (v := 1) dL_law_1534 (by decide) ?_
  refine wp_iadd (pc := 1535) dL_law_1535 ?_
  refine wp_sald (pc := 1536) dL_law_1536 (show vp_in (nI (6 * t) + nI 1) (X 0).1 by rw [nI_add]; exact vp_in_nI (by omega) (by omega)) ?_
  refine wp_eload_n (pc := 1537) dL_law_1537 (by first | rfl | assumption | (repeat first | assumption | rfl | refine aG_n ?_ rfl rfl)) ?_
  refine wp_iload_n (pc := 1538) dL_law_1538 (by first | rfl | assumption | (repeat first | assumption | rfl | refine aG_n ?_ rfl rfl)) ?_
  refine wp_iconst (pc := 1539) (v := 2) dL_law_1539 (by decide) ?_
  refine wp_iadd (pc := 1540) dL_law_1540 ?_
  refine wp_sald (pc := 1541) dL_law_1541 (show vp_in (nI (6 * t) + nI 2) (X 0).1 by rw [nI_add]; exact vp_in_nI (by omega) (by omega)) ?_
  refine wp_eload_n (pc := 1542) dL_law_1542 (by first | rfl | assumption | (repeat first | assumption | rfl | refine aG_n ?_ rfl rfl)) ?_
  refine wp_iload_n (pc := 1543) dL_law_1543 (by first | rfl | assumption | (repeat first | assumption | rfl | refine aG_n ?_ rfl rfl)) ?_
  refine wp_iconst (pc := 1544) (v := 3) dL_law_1544 (by decide) ?_
  refine wp_iadd (pc := 1545) dL_law_1545 ?_
  refine wp_sald (pc := 1546) dL_law_1546 (show vp_in (nI (6 * t) + nI 3) (X 0).1 by rw [nI_add]; exact vp_in_nI (by omega) (by omega)) ?_
  refine wp_eload_n (pc := 1547) dL_law_1547 (by first | rfl | assumption | (repeat first | assumption | rfl | refine aG_n ?_ rfl rfl)) ?_
  refine wp_iload_n (pc := 1548) dL_law_1548 (by first | rfl | assumption | (repeat first | assumption | rfl | refine aG_n ?_ rfl rfl)) ?_
  refine wp_iconst (pc := 1549) (v := 4) dL_law_1549 (by decide) ?_
  refine wp_iadd (pc := 1550) dL_law_1550 ?_
  refine wp_sald (pc := 1551) dL_law_1551 (show vp_in (nI (6 * t) + nI 4) (X 0).1 by rw [nI_add]; exact vp_in_nI (by omega) (by omega)) ?_
  refine wp_eload_n (pc := 1552) dL_law_1552 (by first | rfl | assumption | (repeat first | assumption | rfl | refine aG_n ?_ rfl rfl)) ?_
  refine wp_iload_n (pc := 1553) dL_law_1553 (by first | rfl | assumption | (repeat first | assumption | rfl | refine aG_n ?_ rfl rfl)) ?_
  refine wp_iconst (pc := 1554) (v := 5) dL_law_1554 (by decide) ?_
  refine wp_iadd (pc := 1555) dL_law_1555 ?_
  refine wp_sald (pc := 1556) dL_law_1556 (show vp_in (nI (6 * t) + nI 5) (X 0).1 by rw [nI_add]; exact vp_in_nI (by omega) (by omega)) ?_
  refine wp_cV (pc := 1557) dL_law_1557 lk_13_182 rfl (by decide) rfl (by first | rfl | assumption | exact sh_house (by omega) | exact sh_wish (by omega) | exact sh_wor (by omega) | exact sh_bar (by omega) | exact sh_term (by omega) | exact sh_sheet (by omega) | exact sh_items (by omega) | exact sh_sums (by omega)) rfl rfl (hm _ (fun μ8 hI8 => aK_i ?_))
  refine wp_icmp_eq (pc := 1560) (tgt := 1737) dL_law_1560 rfl (fun _ => ?_) (fun q => absurd rfl q)
  exact kk _ hI8
theorem law_sheet (hJ : ∀ (x0 : Int32) (x1 : Int32) (x2 : Int32), Jnt mX11_sheet mX12_sheet [.int x0, .int x1, .int x2]) (g0 : aL_get L 0 = some (.retAddr 0)) (g1 : aL_get L 1 = some (.ref 0)) (g2 : aL_get L 2 = some (.ref 86)) (g3 : aL_get L 3 = some (.int (nI (6 * t)))) (hb : 6 * t + 6 ≤ (X 0).1) (hN : (X 0).1 ≤ 3072) (hI : Inv μ) (kk : ∀ μ2, Inv μ2 → WP X mL_law 1737 L [] μ2 Q) : WP X mL_law 1565 L [] μ Q := by
  refine wp_aload_n (pc := 1565) dL_law_1565 (by first | rfl | assumption | (repeat first | assumption | rfl | refine aG_n ?_ rfl rfl)) ?_
  refine wp_eload_n (pc := 1566) dL_law_1566 (by first | rfl | assumption | (repeat first | assumption | rfl | refine aG_n ?_ rfl rfl)) ?_
  refine wp_iload_n (pc := 1567) dL_law_1567 (by first | rfl | assumption | (repeat first | assumption | rfl | refine aG_n ?_ rfl rfl)) ?_
  refine wp_iconst (pc := 1568) (v := 1) dL_law_1568 (by decide) ?_
  refine wp_iadd (pc := 1569) dL_law_1569 ?_
  refine wp_sald (pc := 1570) dL_law_1570 (show vp_in (nI (6 * t) + nI 1) (X 0).1 by rw [nI_add]; exact vp_in_nI (by omega) (by omega)) ?_
  refine wp_eload_n (pc := 1571) dL_law_1571 (by first | rfl | assumption | (repeat first | assumption | rfl | refine aG_n ?_ rfl rfl)) ?_
  refine wp_iload_n (pc := 1572) dL_law_1572 (by first | rfl | assumption | (repeat first | assumption | rfl | refine aG_n ?_ rfl rfl)) ?_
  refine wp_iconst (pc := 1573) (v := 2) dL_law_1573 (by decide) ?_
  refine wp_iadd (pc := 1574) dL_law_1574 ?_
  refine wp_sald (pc := 1575) dL_law_1575 (show vp_in (nI (6 * t) + nI 2) (X 0).1 by rw [nI_add]; exact vp_in_nI (by omega) (by omega)) ?_
  refine wp_eload_n (pc := 1576) dL_law_1576 (by first | rfl | assumption | (repeat first | assumption | rfl | refine aG_n ?_ rfl rfl)) ?_
  refine wp_iload_n (pc := 1577) dL_law_1577 (by first | rfl | assumption | (repeat first | assumption | rfl | refine aG_n ?_ rfl rfl)) ?_
  refine wp_iconst (pc := 1578) (v := 3) dL_law_1578 (by decide) ?_
  refine wp_iadd (pc := 1579) dL_law_1579 ?_
  refine wp_sald (pc := 1580) dL_law_1580 (show vp_in (nI (6 * t) + nI 3) (X 0).1 by rw [nI_add]; exact vp_in_nI (by omega) (by omega)) ?_
  refine wp_cV (pc := 1581) dL_law_1581 lk_13_183 rfl (by decide) rfl (by first | rfl | assumption | exact sh_house (by omega) | exact sh_wish (by omega) | exact sh_wor (by omega) | exact sh_bar (by omega) | exact sh_term (by omega) | exact sh_sheet (by omega) | exact sh_items (by omega) | exact sh_sums (by omega)) rfl rfl ((hJ _ _ _) _ _ _ hI (fun v9 μ9 hm => aK_i ?_))
  refine wp_aload_n (pc := 1584) dL_law_1584 (by first | rfl | assumption | (repeat first | assumption | rfl | refine aG_n ?_ rfl rfl)) ?_
  refine wp_eload_n (pc := 1585) dL_law_1585 (by first | rfl | assumption | (repeat first | assumption | rfl | refine aG_n ?_ rfl rfl)) ?_
  refine wp_iload_n (pc := 1586) dL_law_1586 (by first | rfl | assumption | (repeat first | assumption | rfl | refine aG_n ?_ rfl rfl)) ?_
  refine wp_iconst (pc := 1587) (v := 1) dL_law_1587 (by decide) ?_
  refine wp_iadd (pc := 1588) dL_law_1588 ?_
  refine wp_sald (pc := 1589) dL_law_1589 (show vp_in (nI (6 * t) + nI 1) (X 0).1 by rw [nI_add]; exact vp_in_nI (by omega) (by omega)) ?_
  refine wp_eload_n (pc := 1590) dL_law_1590 (by first | rfl | assumption | (repeat first | assumption | rfl | refine aG_n ?_ rfl rfl)) ?_
  refine wp_iload_n (pc := 1591) dL_law_1591 (by first | rfl | assumption | (repeat first | assumption | rfl | refine aG_n ?_ rfl rfl)) ?_
  refine wp_iconst (pc := 1592) (v := 2) dL_law_1592 (by decide) ?_
  refine wp_iadd (pc := 1593) dL_law_1593 ?_
  refine wp_sald (pc := 1594) dL_law_1594 (show vp_in (nI (6 * t) + nI 2) (X 0).1 by rw [nI_add]; exact vp_in_nI (by omega) (by omega)) ?_
  refine wp_eload_n (pc := 1595) dL_law_1595 (by first | rfl | assumption | (repeat first | assumption | rfl | refine aG_n ?_ rfl rfl)) ?_
  refine wp_iload_n (pc := 1596) dL_law_1596 (by first | rfl | assumption | (repeat first | assumption | rfl | refine aG_n ?_ rfl rfl)) ?_
  refine wp_iconst (pc := 1597) (v := 3) dL_law_1597 (by decide) ?_
  refine wp_iadd (pc := 1598) dL_law_1598 ?_
  refine wp_sald (pc := 1599) dL_law_1599 (show vp_in (nI (6 * t) + nI 3) (X 0).1 by rw [nI_add]; exact vp_in_nI (by omega) (by omega)) ?_
  refine wp_cV (pc := 1600) dL_law_1600 lk_13_186 rfl (by decide) rfl (by first | rfl | assumption | exact sh_house (by omega) | exact sh_wish (by omega) | exact sh_wor (by omega) | exact sh_bar (by omega) | exact sh_term (by omega) | exact sh_sheet (by omega) | exact sh_items (by omega) | exact sh_sums (by omega)) rfl rfl (hm _ (fun μ8 hI8 => aK_i ?_))
  refine wp_icmp_eq (pc := 1603) (tgt := 1737) dL_law_1603 rfl (fun _ => ?_) (fun q => absurd rfl q)
  exact kk _ hI8
theorem law_drop (hJ : ∀ (x0 : Int32), Jnt mX11_drop mX12_drop [.int x0]) (g0 : aL_get L 0 = some (.retAddr 0)) (g1 : aL_get L 1 = some (.ref 0)) (g2 : aL_get L 2 = some (.ref 86)) (g3 : aL_get L 3 = some (.int (nI (6 * t)))) (hb : 6 * t + 6 ≤ (X 0).1) (hN : (X 0).1 ≤ 3072) (hI : Inv μ) (kk : ∀ μ2, Inv μ2 → WP X mL_law 1737 L [] μ2 Q) : WP X mL_law 1608 L [] μ Q := by
  refine wp_aload_n (pc := 1608) dL_law_1608 (by first | rfl | assumption | (repeat first | assumption | rfl | refine aG_n ?_ rfl rfl)) ?_
  refine wp_eload_n (pc := 1609) dL_law_1609 (by first | rfl | assumption | (repeat first | assumption | rfl | refine aG_n ?_ rfl rfl)) ?_
  refine wp_iload_n (pc := 1610) dL_law_1610 (by first | rfl | assumption | (repeat first | assumption | rfl | refine aG_n ?_ rfl rfl)) ?_
  refine wp_iconst (pc := 1611) (v := 1) dL_law_1611 (by decide) ?_
  refine wp_iadd (pc := 1612) dL_law_1612 ?_
  refine wp_sald (pc := 1613) dL_law_1613 (show vp_in (nI (6 * t) + nI 1) (X 0).1 by rw [nI_add]; exact vp_in_nI (by omega) (by omega)) ?_
  refine wp_cV (pc := 1614) dL_law_1614 lk_13_187 rfl (by decide) rfl (by first | rfl | assumption | exact sh_house (by omega) | exact sh_wish (by omega) | exact sh_wor (by omega) | exact sh_bar (by omega) | exact sh_term (by omega) | exact sh_sheet (by omega) | exact sh_items (by omega) | exact sh_sums (by omega)) rfl rfl ((hJ _) _ _ _ hI (fun v9 μ9 hm => aK_i ?_))
  refine wp_aload_n (pc := 1617) dL_law_1617 (by first | rfl | assumption | (repeat first | assumption | rfl | refine aG_n ?_ rfl rfl)) ?_
  refine wp_eload_n (pc := 1618) dL_law_1618 (by first | rfl | assumption | (repeat first | assumption | rfl | refine aG_n ?_ rfl rfl)) ?_
  refine wp_iload_n (pc := 1619) dL_law_1619 (by first | rfl | assumption | (repeat first | assumption | rfl | refine aG_n ?_ rfl rfl)) ?_
  refine wp_iconst (pc := 1620) (v := 1) dL_law_1620 (by decide) ?_
  refine wp_iadd (pc := 1621) dL_law_1621 ?_
  refine wp_sald (pc := 1622) dL_law_1622 (show vp_in (nI (6 * t) + nI 1) (X 0).1 by rw [nI_add]; exact vp_in_nI (by omega) (by omega)) ?_
  refine wp_cV (pc := 1623) dL_law_1623 lk_13_190 rfl (by decide) rfl (by first | rfl | assumption | exact sh_house (by omega) | exact sh_wish (by omega) | exact sh_wor (by omega) | exact sh_bar (by omega) | exact sh_term (by omega) | exact sh_sheet (by omega) | exact sh_items (by omega) | exact sh_sums (by omega)) rfl rfl (hm _ (fun μ8 hI8 => aK_i ?_))
  refine wp_icmp_eq (pc := 1626) (tgt := 1737) dL_law_1626 rfl (fun _ => ?_) (fun q => absurd rfl q)
  exact kk _ hI8
theorem law_item (hJ : ∀ (x0 : Int32) (x1 : Int32) (x2 : Int32) (x3 : Int32), Jnt mX11_item mX12_item [.int x0, .int x1, .int x2, .int x3]) (g0 : aL_get L 0 = some (.retAddr 0)) (g1 : aL_get L 1 = some (.ref 0)) (g2 : aL_get L 2 = some (.ref 86)) (g3 : aL_get L 3 = some (.int (nI (6 * t)))) (hb : 6 * t + 6 ≤ (X 0).1) (hN : (X 0).1 ≤ 3072) (hI : Inv μ) (kk : ∀ μ2, Inv μ2 → WP X mL_law 1737 L [] μ2 Q) : WP X mL_law 1631 L [] μ Q := by
  refine wp_aload_n (pc := 1631) dL_law_1631 (by first | rfl | assumption | (repeat first | assumption | rfl | refine aG_n ?_ rfl rfl)) ?_
  refine wp_eload_n (pc := 1632) dL_law_1632 (by first | rfl | assumption | (repeat first | assumption | rfl | refine aG_n ?_ rfl rfl)) ?_
  refine wp_iload_n (pc := 1633) dL_law_1633 (by first | rfl | assumption | (repeat first | assumption | rfl | refine aG_n ?_ rfl rfl)) ?_
  refine wp_iconst (pc := 1634) (v := 1) dL_law_1634 (by decide) ?_
  refine wp_iadd (pc := 1635) dL_law_1635 ?_
  refine wp_sald (pc := 1636) dL_law_1636 (show vp_in (nI (6 * t) + nI 1) (X 0).1 by rw [nI_add]; exact vp_in_nI (by omega) (by omega)) ?_
  refine wp_eload_n (pc := 1637) dL_law_1637 (by first | rfl | assumption | (repeat first | assumption | rfl | refine aG_n ?_ rfl rfl)) ?_
  refine wp_iload_n (pc := 1638) dL_law_1638 (by first | rfl | assumption | (repeat first | assumption | rfl | refine aG_n ?_ rfl rfl)) ?_
  refine wp_iconst (pc := 1639) (v := 2) dL_law_1639 (by decide) ?_
  refine wp_iadd (pc := 1640) dL_law_1640 ?_
  refine wp_sald (pc := 1641) dL_law_1641 (show vp_in (nI (6 * t) + nI 2) (X 0).1 by rw [nI_add]; exact vp_in_nI (by omega) (by omega)) ?_
  refine wp_eload_n (pc := 1642) dL_law_1642 (by first | rfl | assumption | (repeat first | assumption | rfl | refine aG_n ?_ rfl rfl)) ?_
  refine wp_iload_n (pc := 1643) dL_law_1643 (by first | rfl | assumption | (repeat first | assumption | rfl | refine aG_n ?_ rfl rfl)) ?_
  refine wp_iconst (pc := 1644) (v := 3) dL_law_1644 (by decide) ?_
  refine wp_iadd (pc := 1645) dL_law_1645 ?_
  refine wp_sald (pc := 1646) dL_law_1646 (show vp_in (nI (6 * t) + nI 3) (X 0).1 by rw [nI_add]; exact vp_in_nI (by omega) (by omega)) ?_
  refine wp_eload_n (pc := 1647) dL_law_1647 (by first | rfl | assumption | (repeat first | assumption | rfl | refine aG_n ?_ rfl rfl)) ?_
  refine wp_iload_n (pc := 1648) dL_law_1648 (by first | rfl | assumption | (repeat first | assumption | rfl | refine aG_n ?_ rfl rfl)) ?_
  refine wp_iconst (pc := 1649) (v := 4) dL_law_1649 (by decide) ?_
  refine wp_iadd (pc := 1650) dL_law_1650 ?_
  refine wp_sald (pc := 1651) dL_law_1651 (show vp_in (nI (6 * t) + nI 4) (X 0).1 by rw [nI_add]; exact vp_in_nI (by omega) (by omega)) ?_
  refine wp_cV (pc := 1652) dL_law_1652 lk_13_191 rfl (by decide) rfl (by first | rfl | assumption | exact sh_house (by omega) | exact sh_wish (by omega) | exact sh_wor (by omega) | exact sh_bar (by omega) | exact sh_term (by omega) | exact sh_sheet (by omega) | exact sh_items (by omega) | exact sh_sums (by omega)) rfl rfl ((hJ _ _ _ _) _ _ _ hI (fun v9 μ9 hm => aK_i ?_))
  refine wp_aload_n (pc := 1655) dL_law_1655 (by first | rfl | assumption | (repeat first | assumption | rfl | refine aG_n ?_ rfl rfl)) ?_
  refine wp_eload_n (pc := 1656) dL_law_1656 (by first | rfl | assumption | (repeat first | assumption | rfl | refine aG_n ?_ rfl rfl)) ?_
  refine wp_iload_n (pc := 1657) dL_law_1657 (by first | rfl | assumption | (repeat first | assumption | rfl | refine aG_n ?_ rfl rfl)) ?_
  refine wp_iconst (pc := 1658) (v := 1) dL_law_1658 (by decide) ?_
  refine wp_iadd (pc := 1659) dL_law_1659 ?_
  refine wp_sald (pc := 1660) dL_law_1660 (show vp_in (nI (6 * t) + nI 1) (X 0).1 by rw [nI_add]; exact vp_in_nI (by omega) (by omega)) ?_
  refine wp_eload_n (pc := 1661) dL_law_1661 (by first | rfl | assumption | (repeat first | assumption | rfl | refine aG_n ?_ rfl rfl)) ?_
  refine wp_iload_n (pc := 1662) dL_law_1662 (by first | rfl | assumption | (repeat first | assumption | rfl | refine aG_n ?_ rfl rfl)) ?_
  refine wp_iconst (pc := 1663) (v := 2) dL_law_1663 (by decide) ?_
  refine wp_iadd (pc := 1664) dL_law_1664 ?_
  refine wp_sald (pc := 1665) dL_law_1665 (show vp_in (nI (6 * t) + nI 2) (X 0).1 by rw [nI_add]; exact vp_in_nI (by omega) (by omega)) ?_
  refine wp_eload_n (pc := 1666) dL_law_1666 (by first | rfl | assumption | (repeat first | assumption | rfl | refine aG_n ?_ rfl rfl)) ?_
  refine wp_iload_n (pc := 1667) dL_law_1667 (by first | rfl | assumption | (repeat first | assumption | rfl | refine aG_n ?_ rfl rfl)) ?_
  refine wp_iconst (pc := 1668) (v := 3) dL_law_1668 (by decide) ?_
  refine wp_iadd (pc := 1669) dL_law_1669 ?_
  refine wp_sald (pc := 1670) dL_law_1670 (show vp_in (nI (6 * t) + nI 3) (X 0).1 by rw [nI_add]; exact vp_in_nI (by omega) (by omega)) ?_
  refine wp_eload_n (pc := 1671) dL_law_1671 (by first | rfl | assumption | (repeat first | assumption | rfl | refine aG_n ?_ rfl rfl)) ?_
  refine wp_iload_n (pc := 1672) dL_law_1672 (by first | rfl | assumption | (repeat first | assumption | rfl | refine aG_n ?_ rfl rfl)) ?_
  refine wp_iconst (pc := 1673) (v := 4) dL_law_1673 (by decide) ?_
  refine wp_iadd (pc := 1674) dL_law_1674 ?_
  refine wp_sald (pc := 1675) dL_law_1675 (show vp_in (nI (6 * t) + nI 4) (X 0).1 by rw [nI_add]; exact vp_in_nI (by omega) (by omega)) ?_
  refine wp_cV (pc := 1676) dL_law_1676 lk_13_194 rfl (by decide) rfl (by first | rfl | assumption | exact sh_house (by omega) | exact sh_wish (by omega) | exact sh_wor (by omega) | exact sh_bar (by omega) | exact sh_term (by omega) | exact sh_sheet (by omega) | exact sh_items (by omega) | exact sh_sums (by omega)) rfl rfl (hm _ (fun μ8 hI8 => aK_i ?_))
  refine wp_icmp_eq (pc := 1679) (tgt := 1737) dL_law_1679 rfl (fun _ => ?_) (fun q => absurd rfl q)
  exact kk _ hI8
theorem law_wishes (hJ : ∀ (x0 : Int32) (x1 : Int32) (x2 : Int32) (x3 : Int32), Jnt mX11_wishes mX12_wishes [.int x0, .int x1, .int x2, .int x3]) (g0 : aL_get L 0 = some (.retAddr 0)) (g1 : aL_get L 1 = some (.ref 0)) (g2 : aL_get L 2 = some (.ref 86)) (g3 : aL_get L 3 = some (.int (nI (6 * t)))) (hb : 6 * t + 6 ≤ (X 0).1) (hN : (X 0).1 ≤ 3072) (hI : Inv μ) (kk : ∀ μ2, Inv μ2 → WP X mL_law 1737 L [] μ2 Q) : WP X mL_law 1684 L [] μ Q := by
  refine wp_aload_n (pc := 1684) dL_law_1684 (by first | rfl | assumption | (repeat first | assumption | rfl | refine aG_n ?_ rfl rfl)) ?_
  refine wp_eload_n (pc := 1685) dL_law_1685 (by first | rfl | assumption | (repeat first | assumption | rfl | refine aG_n ?_ rfl rfl)) ?_
  refine wp_iload_n (pc := 1686) dL_law_1686 (by first | rfl | assumption | (repeat first | assumption | rfl | refine aG_n ?_ rfl rfl)) ?_
  refine wp_iconst (pc := 1687) (v := 1) dL_law_1687 (by decide) ?_
  refine wp_iadd (pc := 1688) dL_law_1688 ?_
  refine wp_sald (pc := 1689) dL_law_1689 (show vp_in (nI (6 * t) + nI 1) (X 0).1 by rw [nI_add]; exact vp_in_nI (by omega) (by omega)) ?_
  refine wp_eload_n (pc := 1690) dL_law_1690 (by first | rfl | assumption | (repeat first | assumption | rfl | refine aG_n ?_ rfl rfl)) ?_
  refine wp_iload_n (pc := 1691) dL_law_1691 (by first | rfl | assumption | (repeat first | assumption | rfl | refine aG_n ?_ rfl rfl)) ?_
  refine wp_iconst (pc := 1692) (v := 2) dL_law_1692 (by decide) ?_
  refine wp_iadd (pc := 1693) dL_law_1693 ?_
  refine wp_sald (pc := 1694) dL_law_1694 (show vp_in (nI (6 * t) + nI 2) (X 0).1 by rw [nI_add]; exact vp_in_nI (by omega) (by omega)) ?_
  refine wp_eload_n (pc := 1695) dL_law_1695 (by first | rfl | assumption | (repeat first | assumption | rfl | refine aG_n ?_ rfl rfl)) ?_
  refine wp_iload_n (pc := 1696) dL_law_1696 (by first | rfl | assumption | (repeat first | assumption | rfl | refine aG_n ?_ rfl rfl)) ?_
  refine wp_iconst (pc := 1697) (v := 3) dL_law_1697 (by decide) ?_
  refine wp_iadd (pc := 1698) dL_law_1698 ?_
  refine wp_sald (pc := 1699) dL_law_1699 (show vp_in (nI (6 * t) + nI 3) (X 0).1 by rw [nI_add]; exact vp_in_nI (by omega) (by omega)) ?_
  refine wp_eload_n (pc := 1700) dL_law_1700 (by first | rfl | assumption | (repeat first | assumption | rfl | refine aG_n ?_ rfl rfl)) ?_
  refine wp_iload_n (pc := 1701) dL_law_1701 (by first | rfl | assumption | (repeat first | assumption | rfl | refine aG_n ?_ rfl rfl)) ?_
  refine wp_iconst (pc := 1702) (v := 4) dL_law_1702 (by decide) ?_
  refine wp_iadd (pc := 1703) dL_law_1703 ?_
  refine wp_sald (pc := 1704) dL_law_1704 (show vp_in (nI (6 * t) + nI 4) (X 0).1 by rw [nI_add]; exact vp_in_nI (by omega) (by omega)) ?_
  refine wp_cV (pc := 1705) dL_law_1705 lk_13_195 rfl (by decide) rfl (by first | rfl | assumption | exact sh_house (by omega) | exact sh_wish (by omega) | exact sh_wor (by omega) | exact sh_bar (by omega) | exact sh_term (by omega) | exact sh_sheet (by omega) | exact sh_items (by omega) | exact sh_sums (by omega)) rfl rfl ((hJ _ _ _ _) _ _ _ hI (fun v9 μ9 hm => aK_i ?_))
  refine wp_aload_n (pc := 1708) dL_law_1708 (by first | rfl | assumption | (repeat first | assumption | rfl | refine aG_n ?_ rfl rfl)) ?_
  refine wp_eload_n (pc := 1709) dL_law_1709 (by first | rfl | assumption | (repeat first | assumption | rfl | refine aG_n ?_ rfl rfl)) ?_
  refine wp_iload_n (pc := 1710) dL_law_1710 (by first | rfl | assumption | (repeat first | assumption | rfl | refine aG_n ?_ rfl rfl)) ?_
  refine wp_iconst (pc := 1711) (v := 1) dL_law_1711 (by decide) ?_
  refine wp_iadd (pc := 1712) dL_law_1712 ?_
  refine wp_sald (pc := 1713) dL_law_1713 (show vp_in (nI (6 * t) + nI 1) (X 0).1 by rw [nI_add]; exact vp_in_nI (by omega) (by omega)) ?_
  refine wp_eload_n (pc := 1714) dL_law_1714 (by first | rfl | assumption | (repeat first | assumption | rfl | refine aG_n ?_ rfl rfl)) ?_
  refine wp_iload_n (pc := 1715) dL_law_1715 (by first | rfl | assumption | (repeat first | assumption | rfl | refine aG_n ?_ rfl rfl)) ?_
  refine wp_iconst (pc := 1716) (v := 2) dL_law_1716 (by decide) ?_
  refine wp_iadd (pc := 1717) dL_law_1717 ?_
  refine wp_sald (pc := 1718) dL_law_1718 (show vp_in (nI (6 * t) + nI 2) (X 0).1 by rw [nI_add]; exact vp_in_nI (by omega) (by omega)) ?_
  refine wp_eload_n (pc := 1719) dL_law_1719 (by first | rfl | assumption | (repeat first | assumption | rfl | refine aG_n ?_ rfl rfl)) ?_
  refine wp_iload_n (pc := 1720) dL_law_1720 (by first | rfl | assumption | (repeat first | assumption | rfl | refine aG_n ?_ rfl rfl)) ?_
  refine wp_iconst (pc := 1721) (v := 3) dL_law_1721 (by decide) ?_
  refine wp_iadd (pc := 1722) dL_law_1722 ?_
  refine wp_sald (pc := 1723) dL_law_1723 (show vp_in (nI (6 * t) + nI 3) (X 0).1 by rw [nI_add]; exact vp_in_nI (by omega) (by omega)) ?_
  refine wp_eload_n (pc := 1724) dL_law_1724 (by first | rfl | assumption | (repeat first | assumption | rfl | refine aG_n ?_ rfl rfl)) ?_
  refine wp_iload_n (pc := 1725) dL_law_1725 (by first | rfl | assumption | (repeat first | assumption | rfl | refine aG_n ?_ rfl rfl)) ?_
  refine wp_iconst (pc := 1726) (v := 4) dL_law_1726 (by decide) ?_
  refine wp_iadd (pc := 1727) dL_law_1727 ?_
  refine wp_sald (pc := 1728) dL_law_1728 (show vp_in (nI (6 * t) + nI 4) (X 0).1 by rw [nI_add]; exact vp_in_nI (by omega) (by omega)) ?_
  refine wp_cV (pc := 1729) dL_law_1729 lk_13_198 rfl (by decide) rfl (by first | rfl | assumption | exact sh_house (by omega) | exact sh_wish (by omega) | exact sh_wor (by omega) | exact sh_bar (by omega) | exact sh_term (by omega) | exact sh_sheet (by omega) | exact sh_items (by omega) | exact sh_sums (by omega)) rfl rfl (hm _ (fun μ8 hI8 => aK_i ?_))
  refine wp_icmp_eq (pc := 1732) (tgt := 1737) dL_law_1732 rfl (fun _ => ?_) (fun q => absurd rfl q)
  exact kk _ hI8
end LAWC

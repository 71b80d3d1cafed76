/-! The law: its cases and its loop. -/
set_option maxRecDepth 100000 in
set_option maxHeartbeats 4000000 in
/-- stage -/
theorem lc_stage (l : Launch) (G : zG) (b N : Nat) (xs : Nat → Int32) (hN : N ≤ 3072) (ad ad2 : Nat → Nat) (i : Nat) (hi : i + 6 ≤ N) (K_ : ∀ (σ : zσ) (x : zX) (y : zY), zOk σ → zNb σ y.1 → AL l G b N xs 1004 [some (.ref b), some (.ref (ad 0)), some (.ref (ad2 0)), some (.int (nI i))] [] (wP G ad σ x ++ wM G ad2 σ y)) (σ : zσ) (x : zX) (y : zY) (hσ : zOk σ) (hNb : zNb σ y.1) : AL l G b N xs 156 [some (.ref b), some (.ref (ad 0)), some (.ref (ad2 0)), some (.int (nI i))] [] (wP G ad σ x ++ wM G ad2 σ y) := by
  refine b_aload_n (i := 1) (pc := 156) rfl dL_law_156 rfl ?_
  refine b_arg (k := 1) (pc := 157) dL_law_157 dL_law_158 dL_law_159 (by decide) dL_law_160 dL_law_161 (by omega) hN ?_
  refine b_arg (k := 2) (pc := 162) dL_law_162 dL_law_163 dL_law_164 (by decide) dL_law_165 dL_law_166 (by omega) hN ?_
  refine b_P (n := 2) (ad := ad) (S2 := sX5_stage) (p_stage l G ad σ x hσ (xs (i + 1)) (xs (i + 2))) kc_X5_stage km_L_13 ki_X5_stage kv_X5_stage kini_X5 rfl ⟨by decide +kernel, by decide +kernel, by decide +kernel⟩ ⟨by decide, by decide⟩ (pc := 167) dL_law_167 rfl rfl (Nat.le_of_ble_eq_true rfl) (fun u_ => ?_)
  refine b_aload_n (i := 2) (pc := 170) rfl dL_law_170 rfl ?_
  refine b_arg (k := 1) (pc := 171) dL_law_171 dL_law_172 dL_law_173 (by decide) dL_law_174 dL_law_175 (by omega) hN ?_
  refine b_arg (k := 2) (pc := 176) dL_law_176 dL_law_177 dL_law_178 (by decide) dL_law_179 dL_law_180 (by omega) hN ?_
  refine b_M (n := 2) (ad := ad2) (wa := wP G ad (o_stage σ (xs (i + 1)) (xs (i + 2))).2 u_) (S2 := sX6_stage) rfl (m_stage l G ad2 σ y hσ hNb (xs (i + 1)) (xs (i + 2))) kc_X6_stage km_L_17 ki_X6_stage kv_X6_stage kini_X6 rfl ⟨by decide +kernel, by decide +kernel, by decide +kernel⟩ ⟨by decide, by decide⟩ (pc := 181) dL_law_181 rfl rfl (Nat.le_of_ble_eq_true rfl) (fun v_ hv_ => ?_)
  refine b_same (tgt := 1004) (pc := 184) dL_law_184 dL_law_185 (by decide) ?_
  exact K_ (o_stage σ (xs (i + 1)) (xs (i + 2))).2 u_ v_ (zOk_stage hσ (xs (i + 1)) (xs (i + 2))) hv_
set_option maxRecDepth 100000 in
set_option maxHeartbeats 4000000 in
/-- length -/
theorem lc_length (l : Launch) (G : zG) (b N : Nat) (xs : Nat → Int32) (hN : N ≤ 3072) (ad ad2 : Nat → Nat) (i : Nat) (hi : i + 6 ≤ N) (K_ : ∀ (σ : zσ) (x : zX) (y : zY), zOk σ → zNb σ y.1 → AL l G b N xs 1004 [some (.ref b), some (.ref (ad 0)), some (.ref (ad2 0)), some (.int (nI i))] [] (wP G ad σ x ++ wM G ad2 σ y)) (σ : zσ) (x : zX) (y : zY) (hσ : zOk σ) (hNb : zNb σ y.1) : AL l G b N xs 190 [some (.ref b), some (.ref (ad 0)), some (.ref (ad2 0)), some (.int (nI i))] [] (wP G ad σ x ++ wM G ad2 σ y) := by
  refine b_aload_n (i := 1) (pc := 190) rfl dL_law_190 rfl ?_
  refine b_arg (k := 1) (pc := 191) dL_law_191 dL_law_192 dL_law_193 (by decide) dL_law_194 dL_law_195 (by omega) hN ?_
  refine b_P (n := 1) (ad := ad) (S2 := sX5_length) (p_length l G ad σ x hσ (xs (i + 1))) kc_X5_length km_L_18 ki_X5_length kv_X5_length kini_X5 rfl ⟨by decide +kernel, by decide +kernel, by decide +kernel⟩ ⟨by decide, by decide⟩ (pc := 196) dL_law_196 rfl rfl (Nat.le_of_ble_eq_true rfl) (fun u_ => ?_)
  refine b_aload_n (i := 2) (pc := 199) rfl dL_law_199 rfl ?_
  refine b_arg (k := 1) (pc := 200) dL_law_200 dL_law_201 dL_law_202 (by decide) dL_law_203 dL_law_204 (by omega) hN ?_
  refine b_M (n := 1) (ad := ad2) (wa := wP G ad (o_length σ (xs (i + 1))).2 u_) (S2 := sX6_length) rfl (m_length l G ad2 σ y hσ hNb (xs (i + 1))) kc_X6_length km_L_22 ki_X6_length kv_X6_length kini_X6 rfl ⟨by decide +kernel, by decide +kernel, by decide +kernel⟩ ⟨by decide, by decide⟩ (pc := 205) dL_law_205 rfl rfl (Nat.le_of_ble_eq_true rfl) (fun v_ hv_ => ?_)
  refine b_same (tgt := 1004) (pc := 208) dL_law_208 dL_law_209 (by decide) ?_
  exact K_ (o_length σ (xs (i + 1))).2 u_ v_ (zOk_length hσ (xs (i + 1))) hv_
set_option maxRecDepth 100000 in
set_option maxHeartbeats 4000000 in
/-- fresh -/
theorem lc_fresh (l : Launch) (G : zG) (b N : Nat) (xs : Nat → Int32) (hN : N ≤ 3072) (ad ad2 : Nat → Nat) (i : Nat) (hi : i + 6 ≤ N) (K_ : ∀ (σ : zσ) (x : zX) (y : zY), zOk σ → zNb σ y.1 → AL l G b N xs 1004 [some (.ref b), some (.ref (ad 0)), some (.ref (ad2 0)), some (.int (nI i))] [] (wP G ad σ x ++ wM G ad2 σ y)) (σ : zσ) (x : zX) (y : zY) (hσ : zOk σ) (hNb : zNb σ y.1) : AL l G b N xs 214 [some (.ref b), some (.ref (ad 0)), some (.ref (ad2 0)), some (.int (nI i))] [] (wP G ad σ x ++ wM G ad2 σ y) := by
  refine b_aload_n (i := 1) (pc := 214) rfl dL_law_214 rfl ?_
  refine b_arg (k := 1) (pc := 215) dL_law_215 dL_law_216 dL_law_217 (by decide) dL_law_218 dL_law_219 (by omega) hN ?_
  refine b_arg (k := 2) (pc := 220) dL_law_220 dL_law_221 dL_law_222 (by decide) dL_law_223 dL_law_224 (by omega) hN ?_
  refine b_P (n := 2) (ad := ad) (S2 := sX5_fresh) (p_fresh l G ad σ x hσ (xs (i + 1)) (xs (i + 2))) kc_X5_fresh km_L_23 ki_X5_fresh kv_X5_fresh kini_X5 rfl ⟨by decide +kernel, by decide +kernel, by decide +kernel⟩ ⟨by decide, by decide⟩ (pc := 225) dL_law_225 rfl rfl (Nat.le_of_ble_eq_true rfl) (fun u_ => ?_)
  refine b_aload_n (i := 2) (pc := 228) rfl dL_law_228 rfl ?_
  refine b_arg (k := 1) (pc := 229) dL_law_229 dL_law_230 dL_law_231 (by decide) dL_law_232 dL_law_233 (by omega) hN ?_
  refine b_arg (k := 2) (pc := 234) dL_law_234 dL_law_235 dL_law_236 (by decide) dL_law_237 dL_law_238 (by omega) hN ?_
  refine b_M (n := 2) (ad := ad2) (wa := wP G ad (o_fresh σ (xs (i + 1)) (xs (i + 2))).2 u_) (S2 := sX6_fresh) rfl (m_fresh l G ad2 σ y hσ hNb (xs (i + 1)) (xs (i + 2))) kc_X6_fresh km_L_26 ki_X6_fresh kv_X6_fresh kini_X6 rfl ⟨by decide +kernel, by decide +kernel, by decide +kernel⟩ ⟨by decide, by decide⟩ (pc := 239) dL_law_239 rfl rfl (Nat.le_of_ble_eq_true rfl) (fun v_ hv_ => ?_)
  refine b_same (tgt := 1004) (pc := 242) dL_law_242 dL_law_243 (by decide) ?_
  exact K_ (o_fresh σ (xs (i + 1)) (xs (i + 2))).2 u_ v_ (zOk_fresh hσ (xs (i + 1)) (xs (i + 2))) hv_
set_option maxRecDepth 100000 in
set_option maxHeartbeats 4000000 in
/-- told -/
theorem lc_told (l : Launch) (G : zG) (b N : Nat) (xs : Nat → Int32) (hN : N ≤ 3072) (ad ad2 : Nat → Nat) (i : Nat) (hi : i + 6 ≤ N) (K_ : ∀ (σ : zσ) (x : zX) (y : zY), zOk σ → zNb σ y.1 → AL l G b N xs 1004 [some (.ref b), some (.ref (ad 0)), some (.ref (ad2 0)), some (.int (nI i))] [] (wP G ad σ x ++ wM G ad2 σ y)) (σ : zσ) (x : zX) (y : zY) (hσ : zOk σ) (hNb : zNb σ y.1) : AL l G b N xs 248 [some (.ref b), some (.ref (ad 0)), some (.ref (ad2 0)), some (.int (nI i))] [] (wP G ad σ x ++ wM G ad2 σ y) := by
  refine b_aload_n (i := 1) (pc := 248) rfl dL_law_248 rfl ?_
  refine b_arg (k := 1) (pc := 249) dL_law_249 dL_law_250 dL_law_251 (by decide) dL_law_252 dL_law_253 (by omega) hN ?_
  refine b_arg (k := 2) (pc := 254) dL_law_254 dL_law_255 dL_law_256 (by decide) dL_law_257 dL_law_258 (by omega) hN ?_
  refine b_P (n := 2) (ad := ad) (S2 := sX5_told) (p_told l G ad σ x hσ (xs (i + 1)) (xs (i + 2))) kc_X5_told km_L_27 ki_X5_told kv_X5_told kini_X5 rfl ⟨by decide +kernel, by decide +kernel, by decide +kernel⟩ ⟨by decide, by decide⟩ (pc := 259) dL_law_259 rfl rfl (Nat.le_of_ble_eq_true rfl) (fun u_ => ?_)
  refine b_aload_n (i := 2) (pc := 262) rfl dL_law_262 rfl ?_
  refine b_arg (k := 1) (pc := 263) dL_law_263 dL_law_264 dL_law_265 (by decide) dL_law_266 dL_law_267 (by omega) hN ?_
  refine b_arg (k := 2) (pc := 268) dL_law_268 dL_law_269 dL_law_270 (by decide) dL_law_271 dL_law_272 (by omega) hN ?_
  refine b_M (n := 2) (ad := ad2) (wa := wP G ad (o_told σ (xs (i + 1)) (xs (i + 2))).2 u_) (S2 := sX6_told) rfl (m_told l G ad2 σ y hσ hNb (xs (i + 1)) (xs (i + 2))) kc_X6_told km_L_30 ki_X6_told kv_X6_told kini_X6 rfl ⟨by decide +kernel, by decide +kernel, by decide +kernel⟩ ⟨by decide, by decide⟩ (pc := 273) dL_law_273 rfl rfl (Nat.le_of_ble_eq_true rfl) (fun v_ hv_ => ?_)
  refine b_same (tgt := 1004) (pc := 276) dL_law_276 dL_law_277 (by decide) ?_
  exact K_ (o_told σ (xs (i + 1)) (xs (i + 2))).2 u_ v_ (hσ) hv_
set_option maxRecDepth 100000 in
set_option maxHeartbeats 4000000 in
/-- isOf -/
theorem lc_isOf (l : Launch) (G : zG) (b N : Nat) (xs : Nat → Int32) (hN : N ≤ 3072) (ad ad2 : Nat → Nat) (i : Nat) (hi : i + 6 ≤ N) (K_ : ∀ (σ : zσ) (x : zX) (y : zY), zOk σ → zNb σ y.1 → AL l G b N xs 1004 [some (.ref b), some (.ref (ad 0)), some (.ref (ad2 0)), some (.int (nI i))] [] (wP G ad σ x ++ wM G ad2 σ y)) (σ : zσ) (x : zX) (y : zY) (hσ : zOk σ) (hNb : zNb σ y.1) : AL l G b N xs 282 [some (.ref b), some (.ref (ad 0)), some (.ref (ad2 0)), some (.int (nI i))] [] (wP G ad σ x ++ wM G ad2 σ y) := by
  refine b_aload_n (i := 1) (pc := 282) rfl dL_law_282 rfl ?_
  refine b_arg (k := 1) (pc := 283) dL_law_283 dL_law_284 dL_law_285 (by decide) dL_law_286 dL_law_287 (by omega) hN ?_
  refine b_arg (k := 2) (pc := 288) dL_law_288 dL_law_289 dL_law_290 (by decide) dL_law_291 dL_law_292 (by omega) hN ?_
  refine b_P (n := 2) (ad := ad) (S2 := sX5_isOf) (p_isOf l G ad σ x hσ (xs (i + 1)) (xs (i + 2))) kc_X5_isOf km_L_31 ki_X5_isOf kv_X5_isOf kini_X5 rfl ⟨by decide +kernel, by decide +kernel, by decide +kernel⟩ ⟨by decide, by decide⟩ (pc := 293) dL_law_293 rfl rfl (Nat.le_of_ble_eq_true rfl) (fun u_ => ?_)
  refine b_aload_n (i := 2) (pc := 296) rfl dL_law_296 rfl ?_
  refine b_arg (k := 1) (pc := 297) dL_law_297 dL_law_298 dL_law_299 (by decide) dL_law_300 dL_law_301 (by omega) hN ?_
  refine b_arg (k := 2) (pc := 302) dL_law_302 dL_law_303 dL_law_304 (by decide) dL_law_305 dL_law_306 (by omega) hN ?_
  refine b_M (n := 2) (ad := ad2) (wa := wP G ad (o_isOf σ (xs (i + 1)) (xs (i + 2))).2 u_) (S2 := sX6_isOf) rfl (m_isOf l G ad2 σ y hσ hNb (xs (i + 1)) (xs (i + 2))) kc_X6_isOf km_L_34 ki_X6_isOf kv_X6_isOf kini_X6 rfl ⟨by decide +kernel, by decide +kernel, by decide +kernel⟩ ⟨by decide, by decide⟩ (pc := 307) dL_law_307 rfl rfl (Nat.le_of_ble_eq_true rfl) (fun v_ hv_ => ?_)
  refine b_same (tgt := 1004) (pc := 310) dL_law_310 dL_law_311 (by decide) ?_
  exact K_ (o_isOf σ (xs (i + 1)) (xs (i + 2))).2 u_ v_ (hσ) hv_
set_option maxRecDepth 100000 in
set_option maxHeartbeats 4000000 in
/-- feed -/
theorem lc_feed (l : Launch) (G : zG) (b N : Nat) (xs : Nat → Int32) (hN : N ≤ 3072) (ad ad2 : Nat → Nat) (i : Nat) (hi : i + 6 ≤ N) (K_ : ∀ (σ : zσ) (x : zX) (y : zY), zOk σ → zNb σ y.1 → AL l G b N xs 1004 [some (.ref b), some (.ref (ad 0)), some (.ref (ad2 0)), some (.int (nI i))] [] (wP G ad σ x ++ wM G ad2 σ y)) (σ : zσ) (x : zX) (y : zY) (hσ : zOk σ) (hNb : zNb σ y.1) : AL l G b N xs 316 [some (.ref b), some (.ref (ad 0)), some (.ref (ad2 0)), some (.int (nI i))] [] (wP G ad σ x ++ wM G ad2 σ y) := by
  refine b_aload_n (i := 1) (pc := 316) rfl dL_law_316 rfl ?_
  refine b_arg (k := 1) (pc := 317) dL_law_317 dL_law_318 dL_law_319 (by decide) dL_law_320 dL_law_321 (by omega) hN ?_
  refine b_arg (k := 2) (pc := 322) dL_law_322 dL_law_323 dL_law_324 (by decide) dL_law_325 dL_law_326 (by omega) hN ?_
  refine b_arg (k := 3) (pc := 327) dL_law_327 dL_law_328 dL_law_329 (by decide) dL_law_330 dL_law_331 (by omega) hN ?_
  refine b_P (n := 3) (ad := ad) (S2 := sX5_feed) (p_feed l G ad σ x hσ (xs (i + 1)) (xs (i + 2)) (xs (i + 3))) kc_X5_feed km_L_35 ki_X5_feed kv_X5_feed kini_X5 rfl ⟨by decide +kernel, by decide +kernel, by decide +kernel⟩ ⟨by decide, by decide⟩ (pc := 332) dL_law_332 rfl rfl (Nat.le_of_ble_eq_true rfl) (fun u_ => ?_)
  refine b_aload_n (i := 2) (pc := 335) rfl dL_law_335 rfl ?_
  refine b_arg (k := 1) (pc := 336) dL_law_336 dL_law_337 dL_law_338 (by decide) dL_law_339 dL_law_340 (by omega) hN ?_
  refine b_arg (k := 2) (pc := 341) dL_law_341 dL_law_342 dL_law_343 (by decide) dL_law_344 dL_law_345 (by omega) hN ?_
  refine b_arg (k := 3) (pc := 346) dL_law_346 dL_law_347 dL_law_348 (by decide) dL_law_349 dL_law_350 (by omega) hN ?_
  refine b_M (n := 3) (ad := ad2) (wa := wP G ad (o_feed σ (xs (i + 1)) (xs (i + 2)) (xs (i + 3))).2 u_) (S2 := sX6_feed) rfl (m_feed l G ad2 σ y hσ hNb (xs (i + 1)) (xs (i + 2)) (xs (i + 3))) kc_X6_feed km_L_39 ki_X6_feed kv_X6_feed kini_X6 rfl ⟨by decide +kernel, by decide +kernel, by decide +kernel⟩ ⟨by decide, by decide⟩ (pc := 351) dL_law_351 rfl rfl (Nat.le_of_ble_eq_true rfl) (fun v_ hv_ => ?_)
  refine b_same (tgt := 1004) (pc := 354) dL_law_354 dL_law_355 (by decide) ?_
  exact K_ (o_feed σ (xs (i + 1)) (xs (i + 2)) (xs (i + 3))).2 u_ v_ (zOk_feed hσ (xs (i + 1)) (xs (i + 2)) (xs (i + 3))) hv_
set_option maxRecDepth 100000 in
set_option maxHeartbeats 4000000 in
/-- change -/
theorem lc_change (l : Launch) (G : zG) (b N : Nat) (xs : Nat → Int32) (hN : N ≤ 3072) (ad ad2 : Nat → Nat) (i : Nat) (hi : i + 6 ≤ N) (K_ : ∀ (σ : zσ) (x : zX) (y : zY), zOk σ → zNb σ y.1 → AL l G b N xs 1004 [some (.ref b), some (.ref (ad 0)), some (.ref (ad2 0)), some (.int (nI i))] [] (wP G ad σ x ++ wM G ad2 σ y)) (σ : zσ) (x : zX) (y : zY) (hσ : zOk σ) (hNb : zNb σ y.1) : AL l G b N xs 360 [some (.ref b), some (.ref (ad 0)), some (.ref (ad2 0)), some (.int (nI i))] [] (wP G ad σ x ++ wM G ad2 σ y) := by
  refine b_aload_n (i := 1) (pc := 360) rfl dL_law_360 rfl ?_
  refine b_arg (k := 1) (pc := 361) dL_law_361 dL_law_362 dL_law_363 (by decide) dL_law_364 dL_law_365 (by omega) hN ?_
  refine b_arg (k := 2) (pc := 366) dL_law_366 dL_law_367 dL_law_368 (by decide) dL_law_369 dL_law_370 (by omega) hN ?_
  refine b_P (n := 2) (ad := ad) (S2 := sX5_change) (p_change l G ad σ x hσ (xs (i + 1)) (xs (i + 2))) kc_X5_change km_L_40 ki_X5_change kv_X5_change kini_X5 rfl ⟨by decide +kernel, by decide +kernel, by decide +kernel⟩ ⟨by decide, by decide⟩ (pc := 371) dL_law_371 rfl rfl (Nat.le_of_ble_eq_true rfl) (fun u_ => ?_)
  refine b_aload_n (i := 2) (pc := 374) rfl dL_law_374 rfl ?_
  refine b_arg (k := 1) (pc := 375) dL_law_375 dL_law_376 dL_law_377 (by decide) dL_law_378 dL_law_379 (by omega) hN ?_
  refine b_arg (k := 2) (pc := 380) dL_law_380 dL_law_381 dL_law_382 (by decide) dL_law_383 dL_law_384 (by omega) hN ?_
  refine b_M (n := 2) (ad := ad2) (wa := wP G ad (o_change σ (xs (i + 1)) (xs (i + 2))).2 u_) (S2 := sX6_change) rfl (m_change l G ad2 σ y hσ hNb (xs (i + 1)) (xs (i + 2))) kc_X6_change km_L_43 ki_X6_change kv_X6_change kini_X6 rfl ⟨by decide +kernel, by decide +kernel, by decide +kernel⟩ ⟨by decide, by decide⟩ (pc := 385) dL_law_385 rfl rfl (Nat.le_of_ble_eq_true rfl) (fun v_ hv_ => ?_)
  refine b_same (tgt := 1004) (pc := 388) dL_law_388 dL_law_389 (by decide) ?_
  exact K_ (o_change σ (xs (i + 1)) (xs (i + 2))).2 u_ v_ (zOk_change hσ (xs (i + 1)) (xs (i + 2))) hv_
set_option maxRecDepth 100000 in
set_option maxHeartbeats 4000000 in
/-- flow -/
theorem lc_flow (l : Launch) (G : zG) (b N : Nat) (xs : Nat → Int32) (hN : N ≤ 3072) (ad ad2 : Nat → Nat) (i : Nat) (hi : i + 6 ≤ N) (K_ : ∀ (σ : zσ) (x : zX) (y : zY), zOk σ → zNb σ y.1 → AL l G b N xs 1004 [some (.ref b), some (.ref (ad 0)), some (.ref (ad2 0)), some (.int (nI i))] [] (wP G ad σ x ++ wM G ad2 σ y)) (σ : zσ) (x : zX) (y : zY) (hσ : zOk σ) (hNb : zNb σ y.1) : AL l G b N xs 394 [some (.ref b), some (.ref (ad 0)), some (.ref (ad2 0)), some (.int (nI i))] [] (wP G ad σ x ++ wM G ad2 σ y) := by
  refine b_aload_n (i := 1) (pc := 394) rfl dL_law_394 rfl ?_
  refine b_arg (k := 1) (pc := 395) dL_law_395 dL_law_396 dL_law_397 (by decide) dL_law_398 dL_law_399 (by omega) hN ?_
  refine b_arg (k := 2) (pc := 400) dL_law_400 dL_law_401 dL_law_402 (by decide) dL_law_403 dL_law_404 (by omega) hN ?_
  refine b_P (n := 2) (ad := ad) (S2 := sX5_flow) (p_flow l G ad σ x hσ (xs (i + 1)) (xs (i + 2))) kc_X5_flow km_L_44 ki_X5_flow kv_X5_flow kini_X5 rfl ⟨by decide +kernel, by decide +kernel, by decide +kernel⟩ ⟨by decide, by decide⟩ (pc := 405) dL_law_405 rfl rfl (Nat.le_of_ble_eq_true rfl) (fun u_ => ?_)
  refine b_aload_n (i := 2) (pc := 408) rfl dL_law_408 rfl ?_
  refine b_arg (k := 1) (pc := 409) dL_law_409 dL_law_410 dL_law_411 (by decide) dL_law_412 dL_law_413 (by omega) hN ?_
  refine b_arg (k := 2) (pc := 414) dL_law_414 dL_law_415 dL_law_416 (by decide) dL_law_417 dL_law_418 (by omega) hN ?_
  refine b_M (n := 2) (ad := ad2) (wa := wP G ad (o_flow σ (xs (i + 1)) (xs (i + 2))).2 u_) (S2 := sX6_flow) rfl (m_flow l G ad2 σ y hσ hNb (xs (i + 1)) (xs (i + 2))) kc_X6_flow km_L_47 ki_X6_flow kv_X6_flow kini_X6 rfl ⟨by decide +kernel, by decide +kernel, by decide +kernel⟩ ⟨by decide, by decide⟩ (pc := 419) dL_law_419 rfl rfl (Nat.le_of_ble_eq_true rfl) (fun v_ hv_ => ?_)
  refine b_same (tgt := 1004) (pc := 422) dL_law_422 dL_law_423 (by decide) ?_
  exact K_ (o_flow σ (xs (i + 1)) (xs (i + 2))).2 u_ v_ (hσ) hv_
set_option maxRecDepth 100000 in
set_option maxHeartbeats 4000000 in
/-- sweet -/
theorem lc_sweet (l : Launch) (G : zG) (b N : Nat) (xs : Nat → Int32) (hN : N ≤ 3072) (ad ad2 : Nat → Nat) (i : Nat) (hi : i + 6 ≤ N) (K_ : ∀ (σ : zσ) (x : zX) (y : zY), zOk σ → zNb σ y.1 → AL l G b N xs 1004 [some (.ref b), some (.ref (ad 0)), some (.ref (ad2 0)), some (.int (nI i))] [] (wP G ad σ x ++ wM G ad2 σ y)) (σ : zσ) (x : zX) (y : zY) (hσ : zOk σ) (hNb : zNb σ y.1) : AL l G b N xs 428 [some (.ref b), some (.ref (ad 0)), some (.ref (ad2 0)), some (.int (nI i))] [] (wP G ad σ x ++ wM G ad2 σ y) := by
  refine b_aload_n (i := 1) (pc := 428) rfl dL_law_428 rfl ?_
  refine b_arg (k := 1) (pc := 429) dL_law_429 dL_law_430 dL_law_431 (by decide) dL_law_432 dL_law_433 (by omega) hN ?_
  refine b_P (n := 1) (ad := ad) (S2 := sX5_sweet) (p_sweet l G ad σ x hσ (xs (i + 1))) kc_X5_sweet km_L_48 ki_X5_sweet kv_X5_sweet kini_X5 rfl ⟨by decide +kernel, by decide +kernel, by decide +kernel⟩ ⟨by decide, by decide⟩ (pc := 434) dL_law_434 rfl rfl (Nat.le_of_ble_eq_true rfl) (fun u_ => ?_)
  refine b_aload_n (i := 2) (pc := 437) rfl dL_law_437 rfl ?_
  refine b_arg (k := 1) (pc := 438) dL_law_438 dL_law_439 dL_law_440 (by decide) dL_law_441 dL_law_442 (by omega) hN ?_
  refine b_M (n := 1) (ad := ad2) (wa := wP G ad (o_sweet σ (xs (i + 1))).2 u_) (S2 := sX6_sweet) rfl (m_sweet l G ad2 σ y hσ hNb (xs (i + 1))) kc_X6_sweet km_L_51 ki_X6_sweet kv_X6_sweet kini_X6 rfl ⟨by decide +kernel, by decide +kernel, by decide +kernel⟩ ⟨by decide, by decide⟩ (pc := 443) dL_law_443 rfl rfl (Nat.le_of_ble_eq_true rfl) (fun v_ hv_ => ?_)
  refine b_same (tgt := 1004) (pc := 446) dL_law_446 dL_law_447 (by decide) ?_
  exact K_ (o_sweet σ (xs (i + 1))).2 u_ v_ (hσ) hv_
set_option maxRecDepth 100000 in
set_option maxHeartbeats 4000000 in
/-- brine -/
theorem lc_brine (l : Launch) (G : zG) (b N : Nat) (xs : Nat → Int32) (hN : N ≤ 3072) (ad ad2 : Nat → Nat) (i : Nat) (hi : i + 6 ≤ N) (K_ : ∀ (σ : zσ) (x : zX) (y : zY), zOk σ → zNb σ y.1 → AL l G b N xs 1004 [some (.ref b), some (.ref (ad 0)), some (.ref (ad2 0)), some (.int (nI i))] [] (wP G ad σ x ++ wM G ad2 σ y)) (σ : zσ) (x : zX) (y : zY) (hσ : zOk σ) (hNb : zNb σ y.1) : AL l G b N xs 452 [some (.ref b), some (.ref (ad 0)), some (.ref (ad2 0)), some (.int (nI i))] [] (wP G ad σ x ++ wM G ad2 σ y) := by
  refine b_aload_n (i := 1) (pc := 452) rfl dL_law_452 rfl ?_
  refine b_arg (k := 1) (pc := 453) dL_law_453 dL_law_454 dL_law_455 (by decide) dL_law_456 dL_law_457 (by omega) hN ?_
  refine b_P (n := 1) (ad := ad) (S2 := sX5_brine) (p_brine l G ad σ x hσ (xs (i + 1))) kc_X5_brine km_L_52 ki_X5_brine kv_X5_brine kini_X5 rfl ⟨by decide +kernel, by decide +kernel, by decide +kernel⟩ ⟨by decide, by decide⟩ (pc := 458) dL_law_458 rfl rfl (Nat.le_of_ble_eq_true rfl) (fun u_ => ?_)
  refine b_aload_n (i := 2) (pc := 461) rfl dL_law_461 rfl ?_
  refine b_arg (k := 1) (pc := 462) dL_law_462 dL_law_463 dL_law_464 (by decide) dL_law_465 dL_law_466 (by omega) hN ?_
  refine b_M (n := 1) (ad := ad2) (wa := wP G ad (o_brine σ (xs (i + 1))).2 u_) (S2 := sX6_brine) rfl (m_brine l G ad2 σ y hσ hNb (xs (i + 1))) kc_X6_brine km_L_55 ki_X6_brine kv_X6_brine kini_X6 rfl ⟨by decide +kernel, by decide +kernel, by decide +kernel⟩ ⟨by decide, by decide⟩ (pc := 467) dL_law_467 rfl rfl (Nat.le_of_ble_eq_true rfl) (fun v_ hv_ => ?_)
  refine b_same (tgt := 1004) (pc := 470) dL_law_470 dL_law_471 (by decide) ?_
  exact K_ (o_brine σ (xs (i + 1))).2 u_ v_ (hσ) hv_
set_option maxRecDepth 100000 in
set_option maxHeartbeats 4000000 in
/-- power -/
theorem lc_power (l : Launch) (G : zG) (b N : Nat) (xs : Nat → Int32) (hN : N ≤ 3072) (ad ad2 : Nat → Nat) (i : Nat) (hi : i + 6 ≤ N) (K_ : ∀ (σ : zσ) (x : zX) (y : zY), zOk σ → zNb σ y.1 → AL l G b N xs 1004 [some (.ref b), some (.ref (ad 0)), some (.ref (ad2 0)), some (.int (nI i))] [] (wP G ad σ x ++ wM G ad2 σ y)) (σ : zσ) (x : zX) (y : zY) (hσ : zOk σ) (hNb : zNb σ y.1) : AL l G b N xs 476 [some (.ref b), some (.ref (ad 0)), some (.ref (ad2 0)), some (.int (nI i))] [] (wP G ad σ x ++ wM G ad2 σ y) := by
  refine b_aload_n (i := 1) (pc := 476) rfl dL_law_476 rfl ?_
  refine b_P (n := 0) (ad := ad) (S2 := sX5_power) (p_power l G ad σ x hσ ) kc_X5_power km_L_56 ki_X5_power kv_X5_power kini_X5 rfl ⟨by decide +kernel, by decide +kernel, by decide +kernel⟩ ⟨by decide, by decide⟩ (pc := 477) dL_law_477 rfl rfl (Nat.le_of_ble_eq_true rfl) (fun u_ => ?_)
  refine b_aload_n (i := 2) (pc := 480) rfl dL_law_480 rfl ?_
  refine b_M (n := 0) (ad := ad2) (wa := wP G ad (o_power σ).2 u_) (S2 := sX6_power) rfl (m_power l G ad2 σ y hσ hNb ) kc_X6_power km_L_60 ki_X6_power kv_X6_power kini_X6 rfl ⟨by decide +kernel, by decide +kernel, by decide +kernel⟩ ⟨by decide, by decide⟩ (pc := 481) dL_law_481 rfl rfl (Nat.le_of_ble_eq_true rfl) (fun v_ hv_ => ?_)
  refine b_same (tgt := 1004) (pc := 484) dL_law_484 dL_law_485 (by decide) ?_
  exact K_ (o_power σ).2 u_ v_ (hσ) hv_
set_option maxRecDepth 100000 in
set_option maxHeartbeats 4000000 in
/-- failure -/
theorem lc_failure (l : Launch) (G : zG) (b N : Nat) (xs : Nat → Int32) (hN : N ≤ 3072) (ad ad2 : Nat → Nat) (i : Nat) (hi : i + 6 ≤ N) (K_ : ∀ (σ : zσ) (x : zX) (y : zY), zOk σ → zNb σ y.1 → AL l G b N xs 1004 [some (.ref b), some (.ref (ad 0)), some (.ref (ad2 0)), some (.int (nI i))] [] (wP G ad σ x ++ wM G ad2 σ y)) (σ : zσ) (x : zX) (y : zY) (hσ : zOk σ) (hNb : zNb σ y.1) : AL l G b N xs 490 [some (.ref b), some (.ref (ad 0)), some (.ref (ad2 0)), some (.int (nI i))] [] (wP G ad σ x ++ wM G ad2 σ y) := by
  refine b_aload_n (i := 1) (pc := 490) rfl dL_law_490 rfl ?_
  refine b_P (n := 0) (ad := ad) (S2 := sX5_failure) (p_failure l G ad σ x hσ ) kc_X5_failure km_L_61 ki_X5_failure kv_X5_failure kini_X5 rfl ⟨by decide +kernel, by decide +kernel, by decide +kernel⟩ ⟨by decide, by decide⟩ (pc := 491) dL_law_491 rfl rfl (Nat.le_of_ble_eq_true rfl) (fun u_ => ?_)
  refine b_aload_n (i := 2) (pc := 494) rfl dL_law_494 rfl ?_
  refine b_M (n := 0) (ad := ad2) (wa := wP G ad (o_failure σ).2 u_) (S2 := sX6_failure) rfl (m_failure l G ad2 σ y hσ hNb ) kc_X6_failure km_L_64 ki_X6_failure kv_X6_failure kini_X6 rfl ⟨by decide +kernel, by decide +kernel, by decide +kernel⟩ ⟨by decide, by decide⟩ (pc := 495) dL_law_495 rfl rfl (Nat.le_of_ble_eq_true rfl) (fun v_ hv_ => ?_)
  refine b_same (tgt := 1004) (pc := 498) dL_law_498 dL_law_499 (by decide) ?_
  exact K_ (o_failure σ).2 u_ v_ (hσ) hv_
set_option maxRecDepth 100000 in
set_option maxHeartbeats 4000000 in
/-- rule -/
theorem lc_rule (l : Launch) (G : zG) (b N : Nat) (xs : Nat → Int32) (hN : N ≤ 3072) (ad ad2 : Nat → Nat) (i : Nat) (hi : i + 6 ≤ N) (K_ : ∀ (σ : zσ) (x : zX) (y : zY), zOk σ → zNb σ y.1 → AL l G b N xs 1004 [some (.ref b), some (.ref (ad 0)), some (.ref (ad2 0)), some (.int (nI i))] [] (wP G ad σ x ++ wM G ad2 σ y)) (σ : zσ) (x : zX) (y : zY) (hσ : zOk σ) (hNb : zNb σ y.1) : AL l G b N xs 504 [some (.ref b), some (.ref (ad 0)), some (.ref (ad2 0)), some (.int (nI i))] [] (wP G ad σ x ++ wM G ad2 σ y) := by
  refine b_aload_n (i := 1) (pc := 504) rfl dL_law_504 rfl ?_
  refine b_arg (k := 1) (pc := 505) dL_law_505 dL_law_506 dL_law_507 (by decide) dL_law_508 dL_law_509 (by omega) hN ?_
  refine b_arg (k := 2) (pc := 510) dL_law_510 dL_law_511 dL_law_512 (by decide) dL_law_513 dL_law_514 (by omega) hN ?_
  refine b_P (n := 2) (ad := ad) (S2 := sX5_rule) (p_rule l G ad σ x hσ (xs (i + 1)) (xs (i + 2))) kc_X5_rule km_L_65 ki_X5_rule kv_X5_rule kini_X5 rfl ⟨by decide +kernel, by decide +kernel, by decide +kernel⟩ ⟨by decide, by decide⟩ (pc := 515) dL_law_515 rfl rfl (Nat.le_of_ble_eq_true rfl) (fun u_ => ?_)
  refine b_aload_n (i := 2) (pc := 518) rfl dL_law_518 rfl ?_
  refine b_arg (k := 1) (pc := 519) dL_law_519 dL_law_520 dL_law_521 (by decide) dL_law_522 dL_law_523 (by omega) hN ?_
  refine b_arg (k := 2) (pc := 524) dL_law_524 dL_law_525 dL_law_526 (by decide) dL_law_527 dL_law_528 (by omega) hN ?_
  refine b_M (n := 2) (ad := ad2) (wa := wP G ad (o_rule σ (xs (i + 1)) (xs (i + 2))).2 u_) (S2 := sX6_rule) rfl (m_rule l G ad2 σ y hσ hNb (xs (i + 1)) (xs (i + 2))) kc_X6_rule km_L_68 ki_X6_rule kv_X6_rule kini_X6 rfl ⟨by decide +kernel, by decide +kernel, by decide +kernel⟩ ⟨by decide, by decide⟩ (pc := 529) dL_law_529 rfl rfl (Nat.le_of_ble_eq_true rfl) (fun v_ hv_ => ?_)
  refine b_same (tgt := 1004) (pc := 532) dL_law_532 dL_law_533 (by decide) ?_
  exact K_ (o_rule σ (xs (i + 1)) (xs (i + 2))).2 u_ v_ (zOk_rule hσ (xs (i + 1)) (xs (i + 2))) hv_
set_option maxRecDepth 100000 in
set_option maxHeartbeats 4000000 in
/-- days -/
theorem lc_days (l : Launch) (G : zG) (b N : Nat) (xs : Nat → Int32) (hN : N ≤ 3072) (ad ad2 : Nat → Nat) (i : Nat) (hi : i + 6 ≤ N) (K_ : ∀ (σ : zσ) (x : zX) (y : zY), zOk σ → zNb σ y.1 → AL l G b N xs 1004 [some (.ref b), some (.ref (ad 0)), some (.ref (ad2 0)), some (.int (nI i))] [] (wP G ad σ x ++ wM G ad2 σ y)) (σ : zσ) (x : zX) (y : zY) (hσ : zOk σ) (hNb : zNb σ y.1) : AL l G b N xs 538 [some (.ref b), some (.ref (ad 0)), some (.ref (ad2 0)), some (.int (nI i))] [] (wP G ad σ x ++ wM G ad2 σ y) := by
  refine b_aload_n (i := 1) (pc := 538) rfl dL_law_538 rfl ?_
  refine b_arg (k := 1) (pc := 539) dL_law_539 dL_law_540 dL_law_541 (by decide) dL_law_542 dL_law_543 (by omega) hN ?_
  refine b_P (n := 1) (ad := ad) (S2 := sX5_days) (p_days l G ad σ x hσ (xs (i + 1))) kc_X5_days km_L_69 ki_X5_days kv_X5_days kini_X5 rfl ⟨by decide +kernel, by decide +kernel, by decide +kernel⟩ ⟨by decide, by decide⟩ (pc := 544) dL_law_544 rfl rfl (Nat.le_of_ble_eq_true rfl) (fun u_ => ?_)
  refine b_aload_n (i := 2) (pc := 547) rfl dL_law_547 rfl ?_
  refine b_arg (k := 1) (pc := 548) dL_law_548 dL_law_549 dL_law_550 (by decide) dL_law_551 dL_law_552 (by omega) hN ?_
  refine b_M (n := 1) (ad := ad2) (wa := wP G ad (o_days σ (xs (i + 1))).2 u_) (S2 := sX6_days) rfl (m_days l G ad2 σ y hσ hNb (xs (i + 1))) kc_X6_days km_L_72 ki_X6_days kv_X6_days kini_X6 rfl ⟨by decide +kernel, by decide +kernel, by decide +kernel⟩ ⟨by decide, by decide⟩ (pc := 553) dL_law_553 rfl rfl (Nat.le_of_ble_eq_true rfl) (fun v_ hv_ => ?_)
  refine b_same (tgt := 1004) (pc := 556) dL_law_556 dL_law_557 (by decide) ?_
  exact K_ (o_days σ (xs (i + 1))).2 u_ v_ (zOk_days hσ (xs (i + 1))) hv_
set_option maxRecDepth 100000 in
set_option maxHeartbeats 4000000 in
/-- foul -/
theorem lc_foul (l : Launch) (G : zG) (b N : Nat) (xs : Nat → Int32) (hN : N ≤ 3072) (ad ad2 : Nat → Nat) (i : Nat) (hi : i + 6 ≤ N) (K_ : ∀ (σ : zσ) (x : zX) (y : zY), zOk σ → zNb σ y.1 → AL l G b N xs 1004 [some (.ref b), some (.ref (ad 0)), some (.ref (ad2 0)), some (.int (nI i))] [] (wP G ad σ x ++ wM G ad2 σ y)) (σ : zσ) (x : zX) (y : zY) (hσ : zOk σ) (hNb : zNb σ y.1) : AL l G b N xs 562 [some (.ref b), some (.ref (ad 0)), some (.ref (ad2 0)), some (.int (nI i))] [] (wP G ad σ x ++ wM G ad2 σ y) := by
  refine b_aload_n (i := 1) (pc := 562) rfl dL_law_562 rfl ?_
  refine b_arg (k := 1) (pc := 563) dL_law_563 dL_law_564 dL_law_565 (by decide) dL_law_566 dL_law_567 (by omega) hN ?_
  refine b_P (n := 1) (ad := ad) (S2 := sX5_foul) (p_foul l G ad σ x hσ (xs (i + 1))) kc_X5_foul km_L_73 ki_X5_foul kv_X5_foul kini_X5 rfl ⟨by decide +kernel, by decide +kernel, by decide +kernel⟩ ⟨by decide, by decide⟩ (pc := 568) dL_law_568 rfl rfl (Nat.le_of_ble_eq_true rfl) (fun u_ => ?_)
  refine b_aload_n (i := 2) (pc := 571) rfl dL_law_571 rfl ?_
  refine b_arg (k := 1) (pc := 572) dL_law_572 dL_law_573 dL_law_574 (by decide) dL_law_575 dL_law_576 (by omega) hN ?_
  refine b_M (n := 1) (ad := ad2) (wa := wP G ad (o_foul σ (xs (i + 1))).2 u_) (S2 := sX6_foul) rfl (m_foul l G ad2 σ y hσ hNb (xs (i + 1))) kc_X6_foul km_L_76 ki_X6_foul kv_X6_foul kini_X6 rfl ⟨by decide +kernel, by decide +kernel, by decide +kernel⟩ ⟨by decide, by decide⟩ (pc := 577) dL_law_577 rfl rfl (Nat.le_of_ble_eq_true rfl) (fun v_ hv_ => ?_)
  refine b_same (tgt := 1004) (pc := 580) dL_law_580 dL_law_581 (by decide) ?_
  exact K_ (o_foul σ (xs (i + 1))).2 u_ v_ (hσ) hv_
set_option maxRecDepth 100000 in
set_option maxHeartbeats 4000000 in
/-- swap -/
theorem lc_swap (l : Launch) (G : zG) (b N : Nat) (xs : Nat → Int32) (hN : N ≤ 3072) (ad ad2 : Nat → Nat) (i : Nat) (hi : i + 6 ≤ N) (K_ : ∀ (σ : zσ) (x : zX) (y : zY), zOk σ → zNb σ y.1 → AL l G b N xs 1004 [some (.ref b), some (.ref (ad 0)), some (.ref (ad2 0)), some (.int (nI i))] [] (wP G ad σ x ++ wM G ad2 σ y)) (σ : zσ) (x : zX) (y : zY) (hσ : zOk σ) (hNb : zNb σ y.1) : AL l G b N xs 586 [some (.ref b), some (.ref (ad 0)), some (.ref (ad2 0)), some (.int (nI i))] [] (wP G ad σ x ++ wM G ad2 σ y) := by
  refine b_aload_n (i := 1) (pc := 586) rfl dL_law_586 rfl ?_
  refine b_P (n := 0) (ad := ad) (S2 := sX5_swap) (p_swap l G ad σ x hσ ) kc_X5_swap km_L_77 ki_X5_swap kv_X5_swap kini_X5 rfl ⟨by decide +kernel, by decide +kernel, by decide +kernel⟩ ⟨by decide, by decide⟩ (pc := 587) dL_law_587 rfl rfl (Nat.le_of_ble_eq_true rfl) (fun u_ => ?_)
  refine b_aload_n (i := 2) (pc := 590) rfl dL_law_590 rfl ?_
  refine b_M (n := 0) (ad := ad2) (wa := wP G ad (o_swap σ).2 u_) (S2 := sX6_swap) rfl (m_swap l G ad2 σ y hσ hNb ) kc_X6_swap km_L_80 ki_X6_swap kv_X6_swap kini_X6 rfl ⟨by decide +kernel, by decide +kernel, by decide +kernel⟩ ⟨by decide, by decide⟩ (pc := 591) dL_law_591 rfl rfl (Nat.le_of_ble_eq_true rfl) (fun v_ hv_ => ?_)
  refine b_same (tgt := 1004) (pc := 594) dL_law_594 dL_law_595 (by decide) ?_
  exact K_ (o_swap σ).2 u_ v_ (hσ) hv_
set_option maxRecDepth 100000 in
set_option maxHeartbeats 4000000 in
/-- array -/
theorem lc_array (l : Launch) (G : zG) (b N : Nat) (xs : Nat → Int32) (hN : N ≤ 3072) (ad ad2 : Nat → Nat) (i : Nat) (hi : i + 6 ≤ N) (K_ : ∀ (σ : zσ) (x : zX) (y : zY), zOk σ → zNb σ y.1 → AL l G b N xs 1004 [some (.ref b), some (.ref (ad 0)), some (.ref (ad2 0)), some (.int (nI i))] [] (wP G ad σ x ++ wM G ad2 σ y)) (σ : zσ) (x : zX) (y : zY) (hσ : zOk σ) (hNb : zNb σ y.1) : AL l G b N xs 600 [some (.ref b), some (.ref (ad 0)), some (.ref (ad2 0)), some (.int (nI i))] [] (wP G ad σ x ++ wM G ad2 σ y) := by
  refine b_aload_n (i := 1) (pc := 600) rfl dL_law_600 rfl ?_
  refine b_arg (k := 1) (pc := 601) dL_law_601 dL_law_602 dL_law_603 (by decide) dL_law_604 dL_law_605 (by omega) hN ?_
  refine b_arg (k := 2) (pc := 606) dL_law_606 dL_law_607 dL_law_608 (by decide) dL_law_609 dL_law_610 (by omega) hN ?_
  refine b_P (n := 2) (ad := ad) (S2 := sX5_array) (p_array l G ad σ x hσ (xs (i + 1)) (xs (i + 2))) kc_X5_array km_L_81 ki_X5_array kv_X5_array kini_X5 rfl ⟨by decide +kernel, by decide +kernel, by decide +kernel⟩ ⟨by decide, by decide⟩ (pc := 611) dL_law_611 rfl rfl (Nat.le_of_ble_eq_true rfl) (fun u_ => ?_)
  refine b_aload_n (i := 2) (pc := 614) rfl dL_law_614 rfl ?_
  refine b_arg (k := 1) (pc := 615) dL_law_615 dL_law_616 dL_law_617 (by decide) dL_law_618 dL_law_619 (by omega) hN ?_
  refine b_arg (k := 2) (pc := 620) dL_law_620 dL_law_621 dL_law_622 (by decide) dL_law_623 dL_law_624 (by omega) hN ?_
  refine b_M (n := 2) (ad := ad2) (wa := wP G ad (o_array σ (xs (i + 1)) (xs (i + 2))).2 u_) (S2 := sX6_array) rfl (m_array l G ad2 σ y hσ hNb (xs (i + 1)) (xs (i + 2))) kc_X6_array km_L_84 ki_X6_array kv_X6_array kini_X6 rfl ⟨by decide +kernel, by decide +kernel, by decide +kernel⟩ ⟨by decide, by decide⟩ (pc := 625) dL_law_625 rfl rfl (Nat.le_of_ble_eq_true rfl) (fun v_ hv_ => ?_)
  refine b_same (tgt := 1004) (pc := 628) dL_law_628 dL_law_629 (by decide) ?_
  exact K_ (o_array σ (xs (i + 1)) (xs (i + 2))).2 u_ v_ (hσ) hv_
set_option maxRecDepth 100000 in
set_option maxHeartbeats 4000000 in
/-- hour -/
theorem lc_hour (l : Launch) (G : zG) (b N : Nat) (xs : Nat → Int32) (hN : N ≤ 3072) (ad ad2 : Nat → Nat) (i : Nat) (hi : i + 6 ≤ N) (K_ : ∀ (σ : zσ) (x : zX) (y : zY), zOk σ → zNb σ y.1 → AL l G b N xs 1004 [some (.ref b), some (.ref (ad 0)), some (.ref (ad2 0)), some (.int (nI i))] [] (wP G ad σ x ++ wM G ad2 σ y)) (σ : zσ) (x : zX) (y : zY) (hσ : zOk σ) (hNb : zNb σ y.1) : AL l G b N xs 634 [some (.ref b), some (.ref (ad 0)), some (.ref (ad2 0)), some (.int (nI i))] [] (wP G ad σ x ++ wM G ad2 σ y) := by
  refine b_aload_n (i := 1) (pc := 634) rfl dL_law_634 rfl ?_
  refine b_arg (k := 1) (pc := 635) dL_law_635 dL_law_636 dL_law_637 (by decide) dL_law_638 dL_law_639 (by omega) hN ?_
  refine b_arg (k := 2) (pc := 640) dL_law_640 dL_law_641 dL_law_642 (by decide) dL_law_643 dL_law_644 (by omega) hN ?_
  refine b_arg (k := 3) (pc := 645) dL_law_645 dL_law_646 dL_law_647 (by decide) dL_law_648 dL_law_649 (by omega) hN ?_
  refine b_P (n := 3) (ad := ad) (S2 := sX5_hour) (p_hour l G ad σ x hσ (xs (i + 1)) (xs (i + 2)) (xs (i + 3))) kc_X5_hour km_L_85 ki_X5_hour kv_X5_hour kini_X5 rfl ⟨by decide +kernel, by decide +kernel, by decide +kernel⟩ ⟨by decide, by decide⟩ (pc := 650) dL_law_650 rfl rfl (Nat.le_of_ble_eq_true rfl) (fun u_ => ?_)
  refine b_aload_n (i := 2) (pc := 653) rfl dL_law_653 rfl ?_
  refine b_arg (k := 1) (pc := 654) dL_law_654 dL_law_655 dL_law_656 (by decide) dL_law_657 dL_law_658 (by omega) hN ?_
  refine b_arg (k := 2) (pc := 659) dL_law_659 dL_law_660 dL_law_661 (by decide) dL_law_662 dL_law_663 (by omega) hN ?_
  refine b_arg (k := 3) (pc := 664) dL_law_664 dL_law_665 dL_law_666 (by decide) dL_law_667 dL_law_668 (by omega) hN ?_
  refine b_M (n := 3) (ad := ad2) (wa := wP G ad (o_hour σ (xs (i + 1)) (xs (i + 2)) (xs (i + 3))).2 u_) (S2 := sX6_hour) rfl (m_hour l G ad2 σ y hσ hNb (xs (i + 1)) (xs (i + 2)) (xs (i + 3))) kc_X6_hour km_L_88 ki_X6_hour kv_X6_hour kini_X6 rfl ⟨by decide +kernel, by decide +kernel, by decide +kernel⟩ ⟨by decide, by decide⟩ (pc := 669) dL_law_669 rfl rfl (Nat.le_of_ble_eq_true rfl) (fun v_ hv_ => ?_)
  refine b_same (tgt := 1004) (pc := 672) dL_law_672 dL_law_673 (by decide) ?_
  exact K_ (o_hour σ (xs (i + 1)) (xs (i + 2)) (xs (i + 3))).2 u_ v_ (zOk_hour hσ (xs (i + 1)) (xs (i + 2)) (xs (i + 3))) hv_
set_option maxRecDepth 100000 in
set_option maxHeartbeats 4000000 in
/-- lay -/
theorem lc_lay (l : Launch) (G : zG) (b N : Nat) (xs : Nat → Int32) (hN : N ≤ 3072) (ad ad2 : Nat → Nat) (i : Nat) (hi : i + 6 ≤ N) (K_ : ∀ (σ : zσ) (x : zX) (y : zY), zOk σ → zNb σ y.1 → AL l G b N xs 1004 [some (.ref b), some (.ref (ad 0)), some (.ref (ad2 0)), some (.int (nI i))] [] (wP G ad σ x ++ wM G ad2 σ y)) (σ : zσ) (x : zX) (y : zY) (hσ : zOk σ) (hNb : zNb σ y.1) : AL l G b N xs 678 [some (.ref b), some (.ref (ad 0)), some (.ref (ad2 0)), some (.int (nI i))] [] (wP G ad σ x ++ wM G ad2 σ y) := by
  refine b_aload_n (i := 1) (pc := 678) rfl dL_law_678 rfl ?_
  refine b_arg (k := 1) (pc := 679) dL_law_679 dL_law_680 dL_law_681 (by decide) dL_law_682 dL_law_683 (by omega) hN ?_
  refine b_arg (k := 2) (pc := 684) dL_law_684 dL_law_685 dL_law_686 (by decide) dL_law_687 dL_law_688 (by omega) hN ?_
  refine b_P (n := 2) (ad := ad) (S2 := sX5_lay) (p_lay l G ad σ x hσ (xs (i + 1)) (xs (i + 2))) kc_X5_lay km_L_89 ki_X5_lay kv_X5_lay kini_X5 rfl ⟨by decide +kernel, by decide +kernel, by decide +kernel⟩ ⟨by decide, by decide⟩ (pc := 689) dL_law_689 rfl rfl (Nat.le_of_ble_eq_true rfl) (fun u_ => ?_)
  refine b_aload_n (i := 2) (pc := 692) rfl dL_law_692 rfl ?_
  refine b_arg (k := 1) (pc := 693) dL_law_693 dL_law_694 dL_law_695 (by decide) dL_law_696 dL_law_697 (by omega) hN ?_
  refine b_arg (k := 2) (pc := 698) dL_law_698 dL_law_699 dL_law_700 (by decide) dL_law_701 dL_law_702 (by omega) hN ?_
  refine b_M (n := 2) (ad := ad2) (wa := wP G ad (o_lay σ (xs (i + 1)) (xs (i + 2))).2 u_) (S2 := sX6_lay) rfl (m_lay l G ad2 σ y hσ hNb (xs (i + 1)) (xs (i + 2))) kc_X6_lay km_L_92 ki_X6_lay kv_X6_lay kini_X6 rfl ⟨by decide +kernel, by decide +kernel, by decide +kernel⟩ ⟨by decide, by decide⟩ (pc := 703) dL_law_703 rfl rfl (Nat.le_of_ble_eq_true rfl) (fun v_ hv_ => ?_)
  refine b_same (tgt := 1004) (pc := 706) dL_law_706 dL_law_707 (by decide) ?_
  exact K_ (o_lay σ (xs (i + 1)) (xs (i + 2))).2 u_ v_ (zOk_lay hσ (xs (i + 1)) (xs (i + 2))) hv_
set_option maxRecDepth 100000 in
set_option maxHeartbeats 4000000 in
/-- plan -/
theorem lc_plan (l : Launch) (G : zG) (b N : Nat) (xs : Nat → Int32) (hN : N ≤ 3072) (ad ad2 : Nat → Nat) (i : Nat) (hi : i + 6 ≤ N) (K_ : ∀ (σ : zσ) (x : zX) (y : zY), zOk σ → zNb σ y.1 → AL l G b N xs 1004 [some (.ref b), some (.ref (ad 0)), some (.ref (ad2 0)), some (.int (nI i))] [] (wP G ad σ x ++ wM G ad2 σ y)) (σ : zσ) (x : zX) (y : zY) (hσ : zOk σ) (hNb : zNb σ y.1) : AL l G b N xs 712 [some (.ref b), some (.ref (ad 0)), some (.ref (ad2 0)), some (.int (nI i))] [] (wP G ad σ x ++ wM G ad2 σ y) := by
  refine b_aload_n (i := 1) (pc := 712) rfl dL_law_712 rfl ?_
  refine b_arg (k := 1) (pc := 713) dL_law_713 dL_law_714 dL_law_715 (by decide) dL_law_716 dL_law_717 (by omega) hN ?_
  refine b_P (n := 1) (ad := ad) (S2 := sX5_plan) (p_plan l G ad σ x hσ (xs (i + 1))) kc_X5_plan km_L_93 ki_X5_plan kv_X5_plan kini_X5 rfl ⟨by decide +kernel, by decide +kernel, by decide +kernel⟩ ⟨by decide, by decide⟩ (pc := 718) dL_law_718 rfl rfl (Nat.le_of_ble_eq_true rfl) (fun u_ => ?_)
  refine b_aload_n (i := 2) (pc := 721) rfl dL_law_721 rfl ?_
  refine b_arg (k := 1) (pc := 722) dL_law_722 dL_law_723 dL_law_724 (by decide) dL_law_725 dL_law_726 (by omega) hN ?_
  refine b_M (n := 1) (ad := ad2) (wa := wP G ad (o_plan σ (xs (i + 1))).2 u_) (S2 := sX6_plan) rfl (m_plan l G ad2 σ y hσ hNb (xs (i + 1))) kc_X6_plan km_L_96 ki_X6_plan kv_X6_plan kini_X6 rfl ⟨by decide +kernel, by decide +kernel, by decide +kernel⟩ ⟨by decide, by decide⟩ (pc := 727) dL_law_727 rfl rfl (Nat.le_of_ble_eq_true rfl) (fun v_ hv_ => ?_)
  refine b_same (tgt := 1004) (pc := 730) dL_law_730 dL_law_731 (by decide) ?_
  exact K_ (o_plan σ (xs (i + 1))).2 u_ v_ (hσ) hv_
set_option maxRecDepth 100000 in
set_option maxHeartbeats 4000000 in
/-- runs -/
theorem lc_runs (l : Launch) (G : zG) (b N : Nat) (xs : Nat → Int32) (hN : N ≤ 3072) (ad ad2 : Nat → Nat) (i : Nat) (hi : i + 6 ≤ N) (K_ : ∀ (σ : zσ) (x : zX) (y : zY), zOk σ → zNb σ y.1 → AL l G b N xs 1004 [some (.ref b), some (.ref (ad 0)), some (.ref (ad2 0)), some (.int (nI i))] [] (wP G ad σ x ++ wM G ad2 σ y)) (σ : zσ) (x : zX) (y : zY) (hσ : zOk σ) (hNb : zNb σ y.1) : AL l G b N xs 736 [some (.ref b), some (.ref (ad 0)), some (.ref (ad2 0)), some (.int (nI i))] [] (wP G ad σ x ++ wM G ad2 σ y) := by
  refine b_aload_n (i := 1) (pc := 736) rfl dL_law_736 rfl ?_
  refine b_arg (k := 1) (pc := 737) dL_law_737 dL_law_738 dL_law_739 (by decide) dL_law_740 dL_law_741 (by omega) hN ?_
  refine b_P (n := 1) (ad := ad) (S2 := sX5_runs) (p_runs l G ad σ x hσ (xs (i + 1))) kc_X5_runs km_L_97 ki_X5_runs kv_X5_runs kini_X5 rfl ⟨by decide +kernel, by decide +kernel, by decide +kernel⟩ ⟨by decide, by decide⟩ (pc := 742) dL_law_742 rfl rfl (Nat.le_of_ble_eq_true rfl) (fun u_ => ?_)
  refine b_aload_n (i := 2) (pc := 745) rfl dL_law_745 rfl ?_
  refine b_arg (k := 1) (pc := 746) dL_law_746 dL_law_747 dL_law_748 (by decide) dL_law_749 dL_law_750 (by omega) hN ?_
  refine b_M (n := 1) (ad := ad2) (wa := wP G ad (o_runs σ (xs (i + 1))).2 u_) (S2 := sX6_runs) rfl (m_runs l G ad2 σ y hσ hNb (xs (i + 1))) kc_X6_runs km_L_100 ki_X6_runs kv_X6_runs kini_X6 rfl ⟨by decide +kernel, by decide +kernel, by decide +kernel⟩ ⟨by decide, by decide⟩ (pc := 751) dL_law_751 rfl rfl (Nat.le_of_ble_eq_true rfl) (fun v_ hv_ => ?_)
  refine b_same (tgt := 1004) (pc := 754) dL_law_754 dL_law_755 (by decide) ?_
  exact K_ (o_runs σ (xs (i + 1))).2 u_ v_ (hσ) hv_
set_option maxRecDepth 100000 in
set_option maxHeartbeats 4000000 in
/-- tank -/
theorem lc_tank (l : Launch) (G : zG) (b N : Nat) (xs : Nat → Int32) (hN : N ≤ 3072) (ad ad2 : Nat → Nat) (i : Nat) (hi : i + 6 ≤ N) (K_ : ∀ (σ : zσ) (x : zX) (y : zY), zOk σ → zNb σ y.1 → AL l G b N xs 1004 [some (.ref b), some (.ref (ad 0)), some (.ref (ad2 0)), some (.int (nI i))] [] (wP G ad σ x ++ wM G ad2 σ y)) (σ : zσ) (x : zX) (y : zY) (hσ : zOk σ) (hNb : zNb σ y.1) : AL l G b N xs 760 [some (.ref b), some (.ref (ad 0)), some (.ref (ad2 0)), some (.int (nI i))] [] (wP G ad σ x ++ wM G ad2 σ y) := by
  refine b_aload_n (i := 1) (pc := 760) rfl dL_law_760 rfl ?_
  refine b_arg (k := 1) (pc := 761) dL_law_761 dL_law_762 dL_law_763 (by decide) dL_law_764 dL_law_765 (by omega) hN ?_
  refine b_arg (k := 2) (pc := 766) dL_law_766 dL_law_767 dL_law_768 (by decide) dL_law_769 dL_law_770 (by omega) hN ?_
  refine b_P (n := 2) (ad := ad) (S2 := sX5_tank) (p_tank l G ad σ x hσ (xs (i + 1)) (xs (i + 2))) kc_X5_tank km_L_101 ki_X5_tank kv_X5_tank kini_X5 rfl ⟨by decide +kernel, by decide +kernel, by decide +kernel⟩ ⟨by decide, by decide⟩ (pc := 771) dL_law_771 rfl rfl (Nat.le_of_ble_eq_true rfl) (fun u_ => ?_)
  refine b_aload_n (i := 2) (pc := 774) rfl dL_law_774 rfl ?_
  refine b_arg (k := 1) (pc := 775) dL_law_775 dL_law_776 dL_law_777 (by decide) dL_law_778 dL_law_779 (by omega) hN ?_
  refine b_arg (k := 2) (pc := 780) dL_law_780 dL_law_781 dL_law_782 (by decide) dL_law_783 dL_law_784 (by omega) hN ?_
  refine b_M (n := 2) (ad := ad2) (wa := wP G ad (o_tank σ (xs (i + 1)) (xs (i + 2))).2 u_) (S2 := sX6_tank) rfl (m_tank l G ad2 σ y hσ hNb (xs (i + 1)) (xs (i + 2))) kc_X6_tank km_L_104 ki_X6_tank kv_X6_tank kini_X6 rfl ⟨by decide +kernel, by decide +kernel, by decide +kernel⟩ ⟨by decide, by decide⟩ (pc := 785) dL_law_785 rfl rfl (Nat.le_of_ble_eq_true rfl) (fun v_ hv_ => ?_)
  refine b_same (tgt := 1004) (pc := 788) dL_law_788 dL_law_789 (by decide) ?_
  exact K_ (o_tank σ (xs (i + 1)) (xs (i + 2))).2 u_ v_ (hσ) hv_
set_option maxRecDepth 100000 in
set_option maxHeartbeats 4000000 in
/-- joint -/
theorem lc_joint (l : Launch) (G : zG) (b N : Nat) (xs : Nat → Int32) (hN : N ≤ 3072) (ad ad2 : Nat → Nat) (i : Nat) (hi : i + 6 ≤ N) (K_ : ∀ (σ : zσ) (x : zX) (y : zY), zOk σ → zNb σ y.1 → AL l G b N xs 1004 [some (.ref b), some (.ref (ad 0)), some (.ref (ad2 0)), some (.int (nI i))] [] (wP G ad σ x ++ wM G ad2 σ y)) (σ : zσ) (x : zX) (y : zY) (hσ : zOk σ) (hNb : zNb σ y.1) : AL l G b N xs 794 [some (.ref b), some (.ref (ad 0)), some (.ref (ad2 0)), some (.int (nI i))] [] (wP G ad σ x ++ wM G ad2 σ y) := by
  refine b_aload_n (i := 1) (pc := 794) rfl dL_law_794 rfl ?_
  refine b_arg (k := 1) (pc := 795) dL_law_795 dL_law_796 dL_law_797 (by decide) dL_law_798 dL_law_799 (by omega) hN ?_
  refine b_arg (k := 2) (pc := 800) dL_law_800 dL_law_801 dL_law_802 (by decide) dL_law_803 dL_law_804 (by omega) hN ?_
  refine b_arg (k := 3) (pc := 805) dL_law_805 dL_law_806 dL_law_807 (by decide) dL_law_808 dL_law_809 (by omega) hN ?_
  refine b_P (n := 3) (ad := ad) (S2 := sX5_joint) (p_joint l G ad σ x hσ (xs (i + 1)) (xs (i + 2)) (xs (i + 3))) kc_X5_joint km_L_105 ki_X5_joint kv_X5_joint kini_X5 rfl ⟨by decide +kernel, by decide +kernel, by decide +kernel⟩ ⟨by decide, by decide⟩ (pc := 810) dL_law_810 rfl rfl (Nat.le_of_ble_eq_true rfl) (fun u_ => ?_)
  refine b_aload_n (i := 2) (pc := 813) rfl dL_law_813 rfl ?_
  refine b_arg (k := 1) (pc := 814) dL_law_814 dL_law_815 dL_law_816 (by decide) dL_law_817 dL_law_818 (by omega) hN ?_
  refine b_arg (k := 2) (pc := 819) dL_law_819 dL_law_820 dL_law_821 (by decide) dL_law_822 dL_law_823 (by omega) hN ?_
  refine b_arg (k := 3) (pc := 824) dL_law_824 dL_law_825 dL_law_826 (by decide) dL_law_827 dL_law_828 (by omega) hN ?_
  refine b_M (n := 3) (ad := ad2) (wa := wP G ad (o_joint σ (xs (i + 1)) (xs (i + 2)) (xs (i + 3))).2 u_) (S2 := sX6_joint) rfl (m_joint l G ad2 σ y hσ hNb (xs (i + 1)) (xs (i + 2)) (xs (i + 3))) kc_X6_joint km_L_108 ki_X6_joint kv_X6_joint kini_X6 rfl ⟨by decide +kernel, by decide +kernel, by decide +kernel⟩ ⟨by decide, by decide⟩ (pc := 829) dL_law_829 rfl rfl (Nat.le_of_ble_eq_true rfl) (fun v_ hv_ => ?_)
  refine b_same (tgt := 1004) (pc := 832) dL_law_832 dL_law_833 (by decide) ?_
  exact K_ (o_joint σ (xs (i + 1)) (xs (i + 2)) (xs (i + 3))).2 u_ v_ (hσ) hv_
set_option maxRecDepth 100000 in
set_option maxHeartbeats 4000000 in
/-- sheet -/
theorem lc_sheet (l : Launch) (G : zG) (b N : Nat) (xs : Nat → Int32) (hN : N ≤ 3072) (ad ad2 : Nat → Nat) (i : Nat) (hi : i + 6 ≤ N) (K_ : ∀ (σ : zσ) (x : zX) (y : zY), zOk σ → zNb σ y.1 → AL l G b N xs 1004 [some (.ref b), some (.ref (ad 0)), some (.ref (ad2 0)), some (.int (nI i))] [] (wP G ad σ x ++ wM G ad2 σ y)) (σ : zσ) (x : zX) (y : zY) (hσ : zOk σ) (hNb : zNb σ y.1) : AL l G b N xs 838 [some (.ref b), some (.ref (ad 0)), some (.ref (ad2 0)), some (.int (nI i))] [] (wP G ad σ x ++ wM G ad2 σ y) := by
  refine b_aload_n (i := 1) (pc := 838) rfl dL_law_838 rfl ?_
  refine b_arg (k := 1) (pc := 839) dL_law_839 dL_law_840 dL_law_841 (by decide) dL_law_842 dL_law_843 (by omega) hN ?_
  refine b_arg (k := 2) (pc := 844) dL_law_844 dL_law_845 dL_law_846 (by decide) dL_law_847 dL_law_848 (by omega) hN ?_
  refine b_P (n := 2) (ad := ad) (S2 := sX5_sheet) (p_sheet l G ad σ x hσ (xs (i + 1)) (xs (i + 2))) kc_X5_sheet km_L_109 ki_X5_sheet kv_X5_sheet kini_X5 rfl ⟨by decide +kernel, by decide +kernel, by decide +kernel⟩ ⟨by decide, by decide⟩ (pc := 849) dL_law_849 rfl rfl (Nat.le_of_ble_eq_true rfl) (fun u_ => ?_)
  refine b_aload_n (i := 2) (pc := 852) rfl dL_law_852 rfl ?_
  refine b_arg (k := 1) (pc := 853) dL_law_853 dL_law_854 dL_law_855 (by decide) dL_law_856 dL_law_857 (by omega) hN ?_
  refine b_arg (k := 2) (pc := 858) dL_law_858 dL_law_859 dL_law_860 (by decide) dL_law_861 dL_law_862 (by omega) hN ?_
  refine b_M (n := 2) (ad := ad2) (wa := wP G ad (o_sheet σ (xs (i + 1)) (xs (i + 2))).2 u_) (S2 := sX6_sheet) rfl (m_sheet l G ad2 σ y hσ hNb (xs (i + 1)) (xs (i + 2))) kc_X6_sheet km_L_112 ki_X6_sheet kv_X6_sheet kini_X6 rfl ⟨by decide +kernel, by decide +kernel, by decide +kernel⟩ ⟨by decide, by decide⟩ (pc := 863) dL_law_863 rfl rfl (Nat.le_of_ble_eq_true rfl) (fun v_ hv_ => ?_)
  refine b_same (tgt := 1004) (pc := 866) dL_law_866 dL_law_867 (by decide) ?_
  exact K_ (o_sheet σ (xs (i + 1)) (xs (i + 2))).2 u_ v_ (zOk_sheet hσ (xs (i + 1)) (xs (i + 2))) hv_
set_option maxRecDepth 100000 in
set_option maxHeartbeats 4000000 in
/-- mark -/
theorem lc_mark (l : Launch) (G : zG) (b N : Nat) (xs : Nat → Int32) (hN : N ≤ 3072) (ad ad2 : Nat → Nat) (i : Nat) (hi : i + 6 ≤ N) (K_ : ∀ (σ : zσ) (x : zX) (y : zY), zOk σ → zNb σ y.1 → AL l G b N xs 1004 [some (.ref b), some (.ref (ad 0)), some (.ref (ad2 0)), some (.int (nI i))] [] (wP G ad σ x ++ wM G ad2 σ y)) (σ : zσ) (x : zX) (y : zY) (hσ : zOk σ) (hNb : zNb σ y.1) : AL l G b N xs 872 [some (.ref b), some (.ref (ad 0)), some (.ref (ad2 0)), some (.int (nI i))] [] (wP G ad σ x ++ wM G ad2 σ y) := by
  refine b_aload_n (i := 1) (pc := 872) rfl dL_law_872 rfl ?_
  refine b_arg (k := 1) (pc := 873) dL_law_873 dL_law_874 dL_law_875 (by decide) dL_law_876 dL_law_877 (by omega) hN ?_
  refine b_arg (k := 2) (pc := 878) dL_law_878 dL_law_879 dL_law_880 (by decide) dL_law_881 dL_law_882 (by omega) hN ?_
  refine b_arg (k := 3) (pc := 883) dL_law_883 dL_law_884 dL_law_885 (by decide) dL_law_886 dL_law_887 (by omega) hN ?_
  refine b_P (n := 3) (ad := ad) (S2 := sX5_mark) (p_mark l G ad σ x hσ (xs (i + 1)) (xs (i + 2)) (xs (i + 3))) kc_X5_mark km_L_113 ki_X5_mark kv_X5_mark kini_X5 rfl ⟨by decide +kernel, by decide +kernel, by decide +kernel⟩ ⟨by decide, by decide⟩ (pc := 888) dL_law_888 rfl rfl (Nat.le_of_ble_eq_true rfl) (fun u_ => ?_)
  refine b_aload_n (i := 2) (pc := 891) rfl dL_law_891 rfl ?_
  refine b_arg (k := 1) (pc := 892) dL_law_892 dL_law_893 dL_law_894 (by decide) dL_law_895 dL_law_896 (by omega) hN ?_
  refine b_arg (k := 2) (pc := 897) dL_law_897 dL_law_898 dL_law_899 (by decide) dL_law_900 dL_law_901 (by omega) hN ?_
  refine b_arg (k := 3) (pc := 902) dL_law_902 dL_law_903 dL_law_904 (by decide) dL_law_905 dL_law_906 (by omega) hN ?_
  refine b_M (n := 3) (ad := ad2) (wa := wP G ad (o_mark σ (xs (i + 1)) (xs (i + 2)) (xs (i + 3))).2 u_) (S2 := sX6_mark) rfl (m_mark l G ad2 σ y hσ hNb (xs (i + 1)) (xs (i + 2)) (xs (i + 3))) kc_X6_mark km_L_116 ki_X6_mark kv_X6_mark kini_X6 rfl ⟨by decide +kernel, by decide +kernel, by decide +kernel⟩ ⟨by decide, by decide⟩ (pc := 907) dL_law_907 rfl rfl (Nat.le_of_ble_eq_true rfl) (fun v_ hv_ => ?_)
  refine b_same (tgt := 1004) (pc := 910) dL_law_910 dL_law_911 (by decide) ?_
  exact K_ (o_mark σ (xs (i + 1)) (xs (i + 2)) (xs (i + 3))).2 u_ v_ (zOk_mark hσ (xs (i + 1)) (xs (i + 2)) (xs (i + 3))) hv_
set_option maxRecDepth 100000 in
set_option maxHeartbeats 4000000 in
/-- copy -/
theorem lc_copy (l : Launch) (G : zG) (b N : Nat) (xs : Nat → Int32) (hN : N ≤ 3072) (ad ad2 : Nat → Nat) (i : Nat) (hi : i + 6 ≤ N) (K_ : ∀ (σ : zσ) (x : zX) (y : zY), zOk σ → zNb σ y.1 → AL l G b N xs 1004 [some (.ref b), some (.ref (ad 0)), some (.ref (ad2 0)), some (.int (nI i))] [] (wP G ad σ x ++ wM G ad2 σ y)) (σ : zσ) (x : zX) (y : zY) (hσ : zOk σ) (hNb : zNb σ y.1) : AL l G b N xs 916 [some (.ref b), some (.ref (ad 0)), some (.ref (ad2 0)), some (.int (nI i))] [] (wP G ad σ x ++ wM G ad2 σ y) := by
  refine b_aload_n (i := 1) (pc := 916) rfl dL_law_916 rfl ?_
  refine b_arg (k := 1) (pc := 917) dL_law_917 dL_law_918 dL_law_919 (by decide) dL_law_920 dL_law_921 (by omega) hN ?_
  refine b_arg (k := 2) (pc := 922) dL_law_922 dL_law_923 dL_law_924 (by decide) dL_law_925 dL_law_926 (by omega) hN ?_
  refine b_arg (k := 3) (pc := 927) dL_law_927 dL_law_928 dL_law_929 (by decide) dL_law_930 dL_law_931 (by omega) hN ?_
  refine b_arg (k := 4) (pc := 932) dL_law_932 dL_law_933 dL_law_934 (by decide) dL_law_935 dL_law_936 (by omega) hN ?_
  refine b_arg (k := 5) (pc := 937) dL_law_937 dL_law_938 dL_law_939 (by decide) dL_law_940 dL_law_941 (by omega) hN ?_
  refine b_P (n := 5) (ad := ad) (S2 := sX5_copy) (p_copy l G ad σ x hσ (xs (i + 1)) (xs (i + 2)) (xs (i + 3)) (xs (i + 4)) (xs (i + 5))) kc_X5_copy km_L_117 ki_X5_copy kv_X5_copy kini_X5 rfl ⟨by decide +kernel, by decide +kernel, by decide +kernel⟩ ⟨by decide, by decide⟩ (pc := 942) dL_law_942 rfl rfl (Nat.le_of_ble_eq_true rfl) (fun u_ => ?_)
  refine b_aload_n (i := 2) (pc := 945) rfl dL_law_945 rfl ?_
  refine b_arg (k := 1) (pc := 946) dL_law_946 dL_law_947 dL_law_948 (by decide) dL_law_949 dL_law_950 (by omega) hN ?_
  refine b_arg (k := 2) (pc := 951) dL_law_951 dL_law_952 dL_law_953 (by decide) dL_law_954 dL_law_955 (by omega) hN ?_
  refine b_arg (k := 3) (pc := 956) dL_law_956 dL_law_957 dL_law_958 (by decide) dL_law_959 dL_law_960 (by omega) hN ?_
  refine b_arg (k := 4) (pc := 961) dL_law_961 dL_law_962 dL_law_963 (by decide) dL_law_964 dL_law_965 (by omega) hN ?_
  refine b_arg (k := 5) (pc := 966) dL_law_966 dL_law_967 dL_law_968 (by decide) dL_law_969 dL_law_970 (by omega) hN ?_
  refine b_M (n := 5) (ad := ad2) (wa := wP G ad (o_copy σ (xs (i + 1)) (xs (i + 2)) (xs (i + 3)) (xs (i + 4)) (xs (i + 5))).2 u_) (S2 := sX6_copy) rfl (m_copy l G ad2 σ y hσ hNb (xs (i + 1)) (xs (i + 2)) (xs (i + 3)) (xs (i + 4)) (xs (i + 5))) kc_X6_copy km_L_121 ki_X6_copy kv_X6_copy kini_X6 rfl ⟨by decide +kernel, by decide +kernel, by decide +kernel⟩ ⟨by decide, by decide⟩ (pc := 971) dL_law_971 rfl rfl (Nat.le_of_ble_eq_true rfl) (fun v_ hv_ => ?_)
  refine b_same (tgt := 1004) (pc := 974) dL_law_974 dL_law_975 (by decide) ?_
  exact K_ (o_copy σ (xs (i + 1)) (xs (i + 2)) (xs (i + 3)) (xs (i + 4)) (xs (i + 5))).2 u_ v_ (zOk_copy hσ (xs (i + 1)) (xs (i + 2)) (xs (i + 3)) (xs (i + 4)) (xs (i + 5))) hv_
set_option maxRecDepth 100000 in
set_option maxHeartbeats 4000000 in
/-- count -/
theorem lc_count (l : Launch) (G : zG) (b N : Nat) (xs : Nat → Int32) (hN : N ≤ 3072) (ad ad2 : Nat → Nat) (i : Nat) (hi : i + 6 ≤ N) (K_ : ∀ (σ : zσ) (x : zX) (y : zY), zOk σ → zNb σ y.1 → AL l G b N xs 1004 [some (.ref b), some (.ref (ad 0)), some (.ref (ad2 0)), some (.int (nI i))] [] (wP G ad σ x ++ wM G ad2 σ y)) (σ : zσ) (x : zX) (y : zY) (hσ : zOk σ) (hNb : zNb σ y.1) : AL l G b N xs 980 [some (.ref b), some (.ref (ad 0)), some (.ref (ad2 0)), some (.int (nI i))] [] (wP G ad σ x ++ wM G ad2 σ y) := by
  refine b_aload_n (i := 1) (pc := 980) rfl dL_law_980 rfl ?_
  refine b_arg (k := 1) (pc := 981) dL_law_981 dL_law_982 dL_law_983 (by decide) dL_law_984 dL_law_985 (by omega) hN ?_
  refine b_P (n := 1) (ad := ad) (S2 := sX5_count) (p_count l G ad σ x hσ (xs (i + 1))) kc_X5_count km_L_122 ki_X5_count kv_X5_count kini_X5 rfl ⟨by decide +kernel, by decide +kernel, by decide +kernel⟩ ⟨by decide, by decide⟩ (pc := 986) dL_law_986 rfl rfl (Nat.le_of_ble_eq_true rfl) (fun u_ => ?_)
  refine b_aload_n (i := 2) (pc := 989) rfl dL_law_989 rfl ?_
  refine b_arg (k := 1) (pc := 990) dL_law_990 dL_law_991 dL_law_992 (by decide) dL_law_993 dL_law_994 (by omega) hN ?_
  refine b_M (n := 1) (ad := ad2) (wa := wP G ad (o_count σ (xs (i + 1))).2 u_) (S2 := sX6_count) rfl (m_count l G ad2 σ y hσ hNb (xs (i + 1))) kc_X6_count km_L_125 ki_X6_count kv_X6_count kini_X6 rfl ⟨by decide +kernel, by decide +kernel, by decide +kernel⟩ ⟨by decide, by decide⟩ (pc := 995) dL_law_995 rfl rfl (Nat.le_of_ble_eq_true rfl) (fun v_ hv_ => ?_)
  refine b_same (tgt := 1004) (pc := 998) dL_law_998 dL_law_999 (by decide) ?_
  exact K_ (o_count σ (xs (i + 1))).2 u_ v_ (hσ) hv_
set_option maxRecDepth 100000 in
set_option maxHeartbeats 4000000 in
theorem law_loop (l : Launch) (G : zG) (b N : Nat) (xs : Nat → Int32) (hN : N ≤ 3072) (ad ad2 : Nat → Nat) : ∀ (q i : Nat) (σ : zσ) (x : zX) (y : zY), i ≤ N → i + q = N + 6 → zOk σ → zNb σ y.1 → AL l G b N xs 18 [some (.ref b), some (.ref (ad 0)), some (.ref (ad2 0)), some (.int (nI i))] [] (wP G ad σ x ++ wM G ad2 σ y) := by
  intro q_
  induction q_ using Nat.strongRecOn
  rename_i q_ ih_
  intro i σ x y hiN hq_ hσ hNb
  refine b_iload_n (i := 3) (pc := 18) rfl dL_law_18 rfl ?_
  refine b_aload_n (i := 0) (pc := 19) rfl dL_law_19 rfl ?_
  refine b_slen (pc := 20) dL_law_20 ?_
  refine b_bipush (v := 6) (pc := 21) dL_law_21 (by decide) ?_
  refine b_isub (pc := 23) dL_law_23 ?_
  have k6_ : (6 : Int32).toInt = 6 := by decide
  have e6_ : (nI N - 6).toInt = (N : Int) - 6 := by rw [i_sub (by rw [nI_toInt (by omega), k6_]; omega) (by rw [nI_toInt (by omega), k6_]; omega), nI_toInt (by omega), k6_]
  refine b_icmp_gt (tgt := 1010) (pc := 24) dL_law_24 (by decide) (fun c_24 => ?_) (fun c_24 => ?_)
  · refine b_iconst (v := 1) (pc := 1010) dL_law_1010 (by decide) ?_
    exact b_ret (pc := 1011) dL_law_1011
  · have hi_ : i + 6 ≤ N := by
      have := mt Int32.lt_iff_toInt_lt.mpr c_24
      rw [e6_, nI_toInt (by omega)] at this
      omega
    have K_ : ∀ (σ : zσ) (x : zX) (y : zY), zOk σ → zNb σ y.1 → AL l G b N xs 1004 [some (.ref b), some (.ref (ad 0)), some (.ref (ad2 0)), some (.int (nI i))] [] (wP G ad σ x ++ wM G ad2 σ y) := by
      intro σ2 x2 y2 hσ2 hNb2
      refine b_iinc (i := 3) (w := nI (i + 6)) (pc := 1004) rfl rfl (by decide) dL_law_1004 (by rw [zI_add]; rfl) ?_
      refine b_goto (tgt := 18) (pc := 1007) dL_law_1007 (by decide) ?_
      exact ih_ (q_ - 6) (by omega) (i + 6) σ2 x2 y2 hi_ (by omega) hσ2 hNb2
    refine b_aload_n (i := 0) (pc := 27) rfl dL_law_27 rfl ?_
    refine b_iload_n (i := 3) (pc := 28) rfl dL_law_28 rfl ?_
    refine b_sld (pc := 29) dL_law_29 (by omega) hN ?_
    refine b_bipush (v := 31) (pc := 30) dL_law_30 (by decide) ?_
    refine b_iand (pc := 32) dL_law_32 ?_
    obtain ⟨j_, hj_, ej_⟩ := pk_andE (xs i) (m := 31) 5 (by decide +kernel)
    rw [ej_]
    have hj2_ : j_ < 32 := hj_
    rcases (show j_ = 0 ∨ j_ = 1 ∨ j_ = 2 ∨ j_ = 3 ∨ j_ = 4 ∨ j_ = 5 ∨ j_ = 6 ∨ j_ = 7 ∨ j_ = 8 ∨ j_ = 9 ∨ j_ = 10 ∨ j_ = 11 ∨ j_ = 12 ∨ j_ = 13 ∨ j_ = 14 ∨ j_ = 15 ∨ j_ = 16 ∨ j_ = 17 ∨ j_ = 18 ∨ j_ = 19 ∨ j_ = 20 ∨ j_ = 21 ∨ j_ = 22 ∨ j_ = 23 ∨ j_ = 24 ∨ j_ = 25 ∨ j_ = 26 ∨ 27 ≤ j_ by omega) with rfl | rfl | rfl | rfl | rfl | rfl | rfl | rfl | rfl | rfl | rfl | rfl | rfl | rfl | rfl | rfl | rfl | rfl | rfl | rfl | rfl | rfl | rfl | rfl | rfl | rfl | rfl | h27_
    · exact b_tableIn (off := 123) (tgt := 156) (pc := 33) dL_law_33 (by decide +kernel) (by decide +kernel) (by decide +kernel) (by decide +kernel) (lc_stage l G b N xs hN ad ad2 i hi_ K_ σ x y hσ hNb)
    · exact b_tableIn (off := 157) (tgt := 190) (pc := 33) dL_law_33 (by decide +kernel) (by decide +kernel) (by decide +kernel) (by decide +kernel) (lc_length l G b N xs hN ad ad2 i hi_ K_ σ x y hσ hNb)
    · exact b_tableIn (off := 181) (tgt := 214) (pc := 33) dL_law_33 (by decide +kernel) (by decide +kernel) (by decide +kernel) (by decide +kernel) (lc_fresh l G b N xs hN ad ad2 i hi_ K_ σ x y hσ hNb)
    · exact b_tableIn (off := 215) (tgt := 248) (pc := 33) dL_law_33 (by decide +kernel) (by decide +kernel) (by decide +kernel) (by decide +kernel) (lc_told l G b N xs hN ad ad2 i hi_ K_ σ x y hσ hNb)
    · exact b_tableIn (off := 249) (tgt := 282) (pc := 33) dL_law_33 (by decide +kernel) (by decide +kernel) (by decide +kernel) (by decide +kernel) (lc_isOf l G b N xs hN ad ad2 i hi_ K_ σ x y hσ hNb)
    · exact b_tableIn (off := 283) (tgt := 316) (pc := 33) dL_law_33 (by decide +kernel) (by decide +kernel) (by decide +kernel) (by decide +kernel) (lc_feed l G b N xs hN ad ad2 i hi_ K_ σ x y hσ hNb)
    · exact b_tableIn (off := 327) (tgt := 360) (pc := 33) dL_law_33 (by decide +kernel) (by decide +kernel) (by decide +kernel) (by decide +kernel) (lc_change l G b N xs hN ad ad2 i hi_ K_ σ x y hσ hNb)
    · exact b_tableIn (off := 361) (tgt := 394) (pc := 33) dL_law_33 (by decide +kernel) (by decide +kernel) (by decide +kernel) (by decide +kernel) (lc_flow l G b N xs hN ad ad2 i hi_ K_ σ x y hσ hNb)
    · exact b_tableIn (off := 395) (tgt := 428) (pc := 33) dL_law_33 (by decide +kernel) (by decide +kernel) (by decide +kernel) (by decide +kernel) (lc_sweet l G b N xs hN ad ad2 i hi_ K_ σ x y hσ hNb)
    · exact b_tableIn (off := 419) (tgt := 452) (pc := 33) dL_law_33 (by decide +kernel) (by decide +kernel) (by decide +kernel) (by decide +kernel) (lc_brine l G b N xs hN ad ad2 i hi_ K_ σ x y hσ hNb)
    · exact b_tableIn (off := 443) (tgt := 476) (pc := 33) dL_law_33 (by decide +kernel) (by decide +kernel) (by decide +kernel) (by decide +kernel) (lc_power l G b N xs hN ad ad2 i hi_ K_ σ x y hσ hNb)
    · exact b_tableIn (off := 457) (tgt := 490) (pc := 33) dL_law_33 (by decide +kernel) (by decide +kernel) (by decide +kernel) (by decide +kernel) (lc_failure l G b N xs hN ad ad2 i hi_ K_ σ x y hσ hNb)
    · exact b_tableIn (off := 471) (tgt := 504) (pc := 33) dL_law_33 (by decide +kernel) (by decide +kernel) (by decide +kernel) (by decide +kernel) (lc_rule l G b N xs hN ad ad2 i hi_ K_ σ x y hσ hNb)
    · exact b_tableIn (off := 505) (tgt := 538) (pc := 33) dL_law_33 (by decide +kernel) (by decide +kernel) (by decide +kernel) (by decide +kernel) (lc_days l G b N xs hN ad ad2 i hi_ K_ σ x y hσ hNb)
    · exact b_tableIn (off := 529) (tgt := 562) (pc := 33) dL_law_33 (by decide +kernel) (by decide +kernel) (by decide +kernel) (by decide +kernel) (lc_foul l G b N xs hN ad ad2 i hi_ K_ σ x y hσ hNb)
    · exact b_tableIn (off := 553) (tgt := 586) (pc := 33) dL_law_33 (by decide +kernel) (by decide +kernel) (by decide +kernel) (by decide +kernel) (lc_swap l G b N xs hN ad ad2 i hi_ K_ σ x y hσ hNb)
    · exact b_tableIn (off := 567) (tgt := 600) (pc := 33) dL_law_33 (by decide +kernel) (by decide +kernel) (by decide +kernel) (by decide +kernel) (lc_array l G b N xs hN ad ad2 i hi_ K_ σ x y hσ hNb)
    · exact b_tableIn (off := 601) (tgt := 634) (pc := 33) dL_law_33 (by decide +kernel) (by decide +kernel) (by decide +kernel) (by decide +kernel) (lc_hour l G b N xs hN ad ad2 i hi_ K_ σ x y hσ hNb)
    · exact b_tableIn (off := 645) (tgt := 678) (pc := 33) dL_law_33 (by decide +kernel) (by decide +kernel) (by decide +kernel) (by decide +kernel) (lc_lay l G b N xs hN ad ad2 i hi_ K_ σ x y hσ hNb)
    · exact b_tableIn (off := 679) (tgt := 712) (pc := 33) dL_law_33 (by decide +kernel) (by decide +kernel) (by decide +kernel) (by decide +kernel) (lc_plan l G b N xs hN ad ad2 i hi_ K_ σ x y hσ hNb)
    · exact b_tableIn (off := 703) (tgt := 736) (pc := 33) dL_law_33 (by decide +kernel) (by decide +kernel) (by decide +kernel) (by decide +kernel) (lc_runs l G b N xs hN ad ad2 i hi_ K_ σ x y hσ hNb)
    · exact b_tableIn (off := 727) (tgt := 760) (pc := 33) dL_law_33 (by decide +kernel) (by decide +kernel) (by decide +kernel) (by decide +kernel) (lc_tank l G b N xs hN ad ad2 i hi_ K_ σ x y hσ hNb)
    · exact b_tableIn (off := 761) (tgt := 794) (pc := 33) dL_law_33 (by decide +kernel) (by decide +kernel) (by decide +kernel) (by decide +kernel) (lc_joint l G b N xs hN ad ad2 i hi_ K_ σ x y hσ hNb)
    · exact b_tableIn (off := 805) (tgt := 838) (pc := 33) dL_law_33 (by decide +kernel) (by decide +kernel) (by decide +kernel) (by decide +kernel) (lc_sheet l G b N xs hN ad ad2 i hi_ K_ σ x y hσ hNb)
    · exact b_tableIn (off := 839) (tgt := 872) (pc := 33) dL_law_33 (by decide +kernel) (by decide +kernel) (by decide +kernel) (by decide +kernel) (lc_mark l G b N xs hN ad ad2 i hi_ K_ σ x y hσ hNb)
    · exact b_tableIn (off := 883) (tgt := 916) (pc := 33) dL_law_33 (by decide +kernel) (by decide +kernel) (by decide +kernel) (by decide +kernel) (lc_copy l G b N xs hN ad ad2 i hi_ K_ σ x y hσ hNb)
    · exact b_tableIn (off := 947) (tgt := 980) (pc := 33) dL_law_33 (by decide +kernel) (by decide +kernel) (by decide +kernel) (by decide +kernel) (lc_count l G b N xs hN ad ad2 i hi_ K_ σ x y hσ hNb)
    · exact b_tableOut (tgt := 1004) (pc := 33) dL_law_33 (Or.inr (by rw [nI_toInt (by omega)]; omega)) (by decide +kernel) (K_ σ x y hσ hNb)

set_option maxHeartbeats 1000000 in
theorem lw_case_0 {b L : Nat} {xs : Nat → Int32} (hL : L ≤ 3584) {c x i kc ks : Nat} {σ ρ : ZS} {T : TS} (hR : cR c σ T) (hM : rR x ρ T) (hI : tI T) (hi : i + 7 ≤ L) (k : ∀ (σ' ρ' : ZS) (T' : TS), cR c σ' T' → rR x ρ' T' → tI T' → LV b L xs 1684 [some (Ar (some b)), some (Ar (some c)), some (Ar (some x)), some (Ai (nI i))] [] σ' ρ' kc ks) : LV b L xs 212 [some (Ar (some b)), some (Ar (some c)), some (Ar (some x)), some (Ai (nI i))] [] σ ρ (kc + 8) (ks + 200) := by
  refine LV_aload_n (n := 213) dL_law_212 rfl rfl rfl ?_
  refine LV_aload_n (n := 214) dL_law_213 rfl rfl rfl ?_
  refine LV_iload_n (n := 215) dL_law_214 rfl rfl rfl ?_
  refine LV_iconst (v := nI 1) (n := 216) dL_law_215 rfl rfl ?_
  refine LV_iaddN (n := 217) dL_law_216 rfl ?_
  refine LV_sld (j := i + 1) (n := 218) dL_law_217 rfl (by omega) hL ?_
  refine LV_run (kc' := kc) (ks' := ks) (ZRun_V (M := ML) (M' := M_X11_part) (As := [Ai (xs (i + 1))]) (rest := []) (n := 1) (q_part hR hI (xs (i + 1))) cb_X11_part wd_1_98 wd_1_99 wd_1_100 (cR_k hR) (by decide) rfl rfl dL_law_218 (Nat.le_of_ble_eq_true rfl) (Nat.le_of_ble_eq_true rfl)) (Nat.add_le_add_left (Nat.le_of_ble_eq_true rfl) _) (Nat.add_le_add_left (Nat.le_of_ble_eq_true rfl) _) rfl (fun r9 σ9 hp9 hz9 => ?_)
  obtain ⟨rfl, hR9⟩ := hp9
  refine LV_aload_n (n := 222) dL_law_221 rfl rfl rfl ?_
  refine LV_aload_n (n := 223) dL_law_222 rfl rfl rfl ?_
  refine LV_iload_n (n := 224) dL_law_223 rfl rfl rfl ?_
  refine LV_iconst (v := nI 1) (n := 225) dL_law_224 rfl rfl ?_
  refine LV_iaddN (n := 226) dL_law_225 rfl ?_
  refine LV_sld (j := i + 1) (n := 227) dL_law_226 rfl (by omega) hL ?_
  refine LV_swap ?_
  refine LV_run (kc' := kc) (ks' := ks) (ZRun_V (M := ML) (M' := M_X12_part) (As := [Ai (xs (i + 1))]) (rest := [Ai _]) (n := 1) (c_part (rR_zU hM _) hI (xs (i + 1))) cb_X12_part wd_5_76 wd_5_77 wd_5_78 (rf_sh (rR_zU hM (zn σ9))).1 (by decide) rfl rfl dL_law_227 (Nat.le_of_ble_eq_true rfl) (Nat.le_of_ble_eq_true rfl)) (Nat.le_refl _) (Nat.le_refl _) rfl (fun r8 ρ8 hp8 hz8 => ?_)
  obtain ⟨rfl, hM8⟩ := hp8
  refine LV_swap ?_
  refine LV_icmp_eq (tgt := 1684) (n := 233) dL_law_230 (by decide) rfl (fun _ => ?_) (fun h9 => absurd rfl h9)
  exact k _ _ _ (cR_zU hR9 hz8) hM8 (ki_part hI _)
set_option maxHeartbeats 1000000 in
theorem lw_case_1 {b L : Nat} {xs : Nat → Int32} (hL : L ≤ 3584) {c x i kc ks : Nat} {σ ρ : ZS} {T : TS} (hR : cR c σ T) (hM : rR x ρ T) (hI : tI T) (hi : i + 7 ≤ L) (k : ∀ (σ' ρ' : ZS) (T' : TS), cR c σ' T' → rR x ρ' T' → tI T' → LV b L xs 1684 [some (Ar (some b)), some (Ar (some c)), some (Ar (some x)), some (Ai (nI i))] [] σ' ρ' kc ks) : LV b L xs 235 [some (Ar (some b)), some (Ar (some c)), some (Ar (some x)), some (Ai (nI i))] [] σ ρ (kc + 8) (ks + 200) := by
  refine LV_aload_n (n := 236) dL_law_235 rfl rfl rfl ?_
  refine LV_aload_n (n := 237) dL_law_236 rfl rfl rfl ?_
  refine LV_iload_n (n := 238) dL_law_237 rfl rfl rfl ?_
  refine LV_iconst (v := nI 1) (n := 239) dL_law_238 rfl rfl ?_
  refine LV_iaddN (n := 240) dL_law_239 rfl ?_
  refine LV_sld (j := i + 1) (n := 241) dL_law_240 rfl (by omega) hL ?_
  refine LV_aload_n (n := 242) dL_law_241 rfl rfl rfl ?_
  refine LV_iload_n (n := 243) dL_law_242 rfl rfl rfl ?_
  refine LV_iconst (v := nI 2) (n := 244) dL_law_243 rfl rfl ?_
  refine LV_iaddN (n := 245) dL_law_244 rfl ?_
  refine LV_sld (j := i + 2) (n := 246) dL_law_245 rfl (by omega) hL ?_
  refine LV_run (kc' := kc) (ks' := ks) (ZRun_V (M := ML) (M' := M_X11_bar) (As := [Ai (xs (i + 1)), Ai (xs (i + 2))]) (rest := []) (n := 2) (q_bar hR hI (xs (i + 1)) (xs (i + 2))) cb_X11_bar wd_1_206 wd_1_207 wd_1_208 (cR_k hR) (by decide) rfl rfl dL_law_246 (Nat.le_of_ble_eq_true rfl) (Nat.le_of_ble_eq_true rfl)) (Nat.add_le_add_left (Nat.le_of_ble_eq_true rfl) _) (Nat.add_le_add_left (Nat.le_of_ble_eq_true rfl) _) rfl (fun r9 σ9 hp9 hz9 => ?_)
  obtain ⟨rfl, hR9⟩ := hp9
  refine LV_aload_n (n := 250) dL_law_249 rfl rfl rfl ?_
  refine LV_aload_n (n := 251) dL_law_250 rfl rfl rfl ?_
  refine LV_iload_n (n := 252) dL_law_251 rfl rfl rfl ?_
  refine LV_iconst (v := nI 1) (n := 253) dL_law_252 rfl rfl ?_
  refine LV_iaddN (n := 254) dL_law_253 rfl ?_
  refine LV_sld (j := i + 1) (n := 255) dL_law_254 rfl (by omega) hL ?_
  refine LV_aload_n (n := 256) dL_law_255 rfl rfl rfl ?_
  refine LV_iload_n (n := 257) dL_law_256 rfl rfl rfl ?_
  refine LV_iconst (v := nI 2) (n := 258) dL_law_257 rfl rfl ?_
  refine LV_iaddN (n := 259) dL_law_258 rfl ?_
  refine LV_sld (j := i + 2) (n := 260) dL_law_259 rfl (by omega) hL ?_
  refine LV_swap ?_
  refine LV_run (kc' := kc) (ks' := ks) (ZRun_V (M := ML) (M' := M_X12_bar) (As := [Ai (xs (i + 1)), Ai (xs (i + 2))]) (rest := [Ai _]) (n := 2) (c_bar (rR_zU hM _) hI (xs (i + 1)) (xs (i + 2))) cb_X12_bar wd_5_92 wd_5_93 wd_5_94 (rf_sh (rR_zU hM (zn σ9))).1 (by decide) rfl rfl dL_law_260 (Nat.le_of_ble_eq_true rfl) (Nat.le_of_ble_eq_true rfl)) (Nat.le_refl _) (Nat.le_refl _) rfl (fun r8 ρ8 hp8 hz8 => ?_)
  obtain ⟨rfl, hM8⟩ := hp8
  refine LV_swap ?_
  refine LV_icmp_eq (tgt := 1684) (n := 266) dL_law_263 (by decide) rfl (fun _ => ?_) (fun h9 => absurd rfl h9)
  exact k _ _ _ (cR_zU hR9 hz8) hM8 (ki_bar hI _ _)
set_option maxHeartbeats 1000000 in
theorem lw_case_2 {b L : Nat} {xs : Nat → Int32} (hL : L ≤ 3584) {c x i kc ks : Nat} {σ ρ : ZS} {T : TS} (hR : cR c σ T) (hM : rR x ρ T) (hI : tI T) (hi : i + 7 ≤ L) (k : ∀ (σ' ρ' : ZS) (T' : TS), cR c σ' T' → rR x ρ' T' → tI T' → LV b L xs 1684 [some (Ar (some b)), some (Ar (some c)), some (Ar (some x)), some (Ai (nI i))] [] σ' ρ' kc ks) : LV b L xs 268 [some (Ar (some b)), some (Ar (some c)), some (Ar (some x)), some (Ai (nI i))] [] σ ρ (kc + 8) (ks + 200) := by
  refine LV_aload_n (n := 269) dL_law_268 rfl rfl rfl ?_
  refine LV_aload_n (n := 270) dL_law_269 rfl rfl rfl ?_
  refine LV_iload_n (n := 271) dL_law_270 rfl rfl rfl ?_
  refine LV_iconst (v := nI 1) (n := 272) dL_law_271 rfl rfl ?_
  refine LV_iaddN (n := 273) dL_law_272 rfl ?_
  refine LV_sld (j := i + 1) (n := 274) dL_law_273 rfl (by omega) hL ?_
  refine LV_aload_n (n := 275) dL_law_274 rfl rfl rfl ?_
  refine LV_iload_n (n := 276) dL_law_275 rfl rfl rfl ?_
  refine LV_iconst (v := nI 2) (n := 277) dL_law_276 rfl rfl ?_
  refine LV_iaddN (n := 278) dL_law_277 rfl ?_
  refine LV_sld (j := i + 2) (n := 279) dL_law_278 rfl (by omega) hL ?_
  refine LV_aload_n (n := 280) dL_law_279 rfl rfl rfl ?_
  refine LV_iload_n (n := 281) dL_law_280 rfl rfl rfl ?_
  refine LV_iconst (v := nI 3) (n := 282) dL_law_281 rfl rfl ?_
  refine LV_iaddN (n := 283) dL_law_282 rfl ?_
  refine LV_sld (j := i + 3) (n := 284) dL_law_283 rfl (by omega) hL ?_
  refine LV_aload_n (n := 285) dL_law_284 rfl rfl rfl ?_
  refine LV_iload_n (n := 286) dL_law_285 rfl rfl rfl ?_
  refine LV_iconst (v := nI 4) (n := 287) dL_law_286 rfl rfl ?_
  refine LV_iaddN (n := 288) dL_law_287 rfl ?_
  refine LV_sld (j := i + 4) (n := 289) dL_law_288 rfl (by omega) hL ?_
  refine LV_aload_n (n := 290) dL_law_289 rfl rfl rfl ?_
  refine LV_iload_n (n := 291) dL_law_290 rfl rfl rfl ?_
  refine LV_iconst (v := nI 5) (n := 292) dL_law_291 rfl rfl ?_
  refine LV_iaddN (n := 293) dL_law_292 rfl ?_
  refine LV_sld (j := i + 5) (n := 294) dL_law_293 rfl (by omega) hL ?_
  refine LV_aload_n (n := 295) dL_law_294 rfl rfl rfl ?_
  refine LV_iload_n (n := 296) dL_law_295 rfl rfl rfl ?_
  refine LV_bipush (v := nI 6) (n := 298) dL_law_296 rfl rfl ?_
  refine LV_iaddN (n := 299) dL_law_298 rfl ?_
  refine LV_sld (j := i + 6) (n := 300) dL_law_299 rfl (by omega) hL ?_
  refine LV_run (kc' := kc) (ks' := ks) (ZRun_V (M := ML) (M' := M_X11_put) (As := [Ai (xs (i + 1)), Ai (xs (i + 2)), Ai (xs (i + 3)), Ai (xs (i + 4)), Ai (xs (i + 5)), Ai (xs (i + 6))]) (rest := []) (n := 6) (q_put hR hI (xs (i + 1)) (xs (i + 2)) (xs (i + 3)) (xs (i + 4)) (xs (i + 5)) (xs (i + 6))) cb_X11_put wd_1_221 wd_1_222 wd_1_223 (cR_k hR) (by decide) rfl rfl dL_law_300 (Nat.le_of_ble_eq_true rfl) (Nat.le_of_ble_eq_true rfl)) (Nat.add_le_add_left (Nat.le_of_ble_eq_true rfl) _) (Nat.add_le_add_left (Nat.le_of_ble_eq_true rfl) _) rfl (fun r9 σ9 hp9 hz9 => ?_)
  obtain ⟨rfl, hR9⟩ := hp9
  refine LV_aload_n (n := 304) dL_law_303 rfl rfl rfl ?_
  refine LV_aload_n (n := 305) dL_law_304 rfl rfl rfl ?_
  refine LV_iload_n (n := 306) dL_law_305 rfl rfl rfl ?_
  refine LV_iconst (v := nI 1) (n := 307) dL_law_306 rfl rfl ?_
  refine LV_iaddN (n := 308) dL_law_307 rfl ?_
  refine LV_sld (j := i + 1) (n := 309) dL_law_308 rfl (by omega) hL ?_
  refine LV_aload_n (n := 310) dL_law_309 rfl rfl rfl ?_
  refine LV_iload_n (n := 311) dL_law_310 rfl rfl rfl ?_
  refine LV_iconst (v := nI 2) (n := 312) dL_law_311 rfl rfl ?_
  refine LV_iaddN (n := 313) dL_law_312 rfl ?_
  refine LV_sld (j := i + 2) (n := 314) dL_law_313 rfl (by omega) hL ?_
  refine LV_aload_n (n := 315) dL_law_314 rfl rfl rfl ?_
  refine LV_iload_n (n := 316) dL_law_315 rfl rfl rfl ?_
  refine LV_iconst (v := nI 3) (n := 317) dL_law_316 rfl rfl ?_
  refine LV_iaddN (n := 318) dL_law_317 rfl ?_
  refine LV_sld (j := i + 3) (n := 319) dL_law_318 rfl (by omega) hL ?_
  refine LV_aload_n (n := 320) dL_law_319 rfl rfl rfl ?_
  refine LV_iload_n (n := 321) dL_law_320 rfl rfl rfl ?_
  refine LV_iconst (v := nI 4) (n := 322) dL_law_321 rfl rfl ?_
  refine LV_iaddN (n := 323) dL_law_322 rfl ?_
  refine LV_sld (j := i + 4) (n := 324) dL_law_323 rfl (by omega) hL ?_
  refine LV_aload_n (n := 325) dL_law_324 rfl rfl rfl ?_
  refine LV_iload_n (n := 326) dL_law_325 rfl rfl rfl ?_
  refine LV_iconst (v := nI 5) (n := 327) dL_law_326 rfl rfl ?_
  refine LV_iaddN (n := 328) dL_law_327 rfl ?_
  refine LV_sld (j := i + 5) (n := 329) dL_law_328 rfl (by omega) hL ?_
  refine LV_aload_n (n := 330) dL_law_329 rfl rfl rfl ?_
  refine LV_iload_n (n := 331) dL_law_330 rfl rfl rfl ?_
  refine LV_bipush (v := nI 6) (n := 333) dL_law_331 rfl rfl ?_
  refine LV_iaddN (n := 334) dL_law_333 rfl ?_
  refine LV_sld (j := i + 6) (n := 335) dL_law_334 rfl (by omega) hL ?_
  refine LV_swap ?_
  refine LV_run (kc' := kc) (ks' := ks) (ZRun_V (M := ML) (M' := M_X12_put) (As := [Ai (xs (i + 1)), Ai (xs (i + 2)), Ai (xs (i + 3)), Ai (xs (i + 4)), Ai (xs (i + 5)), Ai (xs (i + 6))]) (rest := [Ai _]) (n := 6) (c_put (rR_zU hM _) hI (xs (i + 1)) (xs (i + 2)) (xs (i + 3)) (xs (i + 4)) (xs (i + 5)) (xs (i + 6))) cb_X12_put wd_5_120 wd_5_121 wd_5_122 (rf_sh (rR_zU hM (zn σ9))).1 (by decide) rfl rfl dL_law_335 (Nat.le_of_ble_eq_true rfl) (Nat.le_of_ble_eq_true rfl)) (Nat.le_refl _) (Nat.le_refl _) rfl (fun r8 ρ8 hp8 hz8 => ?_)
  obtain ⟨rfl, hM8⟩ := hp8
  refine LV_swap ?_
  refine LV_icmp_eq (tgt := 1684) (n := 341) dL_law_338 (by decide) rfl (fun _ => ?_) (fun h9 => absurd rfl h9)
  exact k _ _ _ (cR_zU hR9 hz8) hM8 (ki_put hI _ _ _ _ _ _)
set_option maxHeartbeats 1000000 in
theorem lw_case_3 {b L : Nat} {xs : Nat → Int32} (hL : L ≤ 3584) {c x i kc ks : Nat} {σ ρ : ZS} {T : TS} (hR : cR c σ T) (hM : rR x ρ T) (hI : tI T) (hi : i + 7 ≤ L) (k : ∀ (σ' ρ' : ZS) (T' : TS), cR c σ' T' → rR x ρ' T' → tI T' → LV b L xs 1684 [some (Ar (some b)), some (Ar (some c)), some (Ar (some x)), some (Ai (nI i))] [] σ' ρ' kc ks) : LV b L xs 343 [some (Ar (some b)), some (Ar (some c)), some (Ar (some x)), some (Ai (nI i))] [] σ ρ (kc + 8) (ks + 200) := by
  refine LV_aload_n (n := 344) dL_law_343 rfl rfl rfl ?_
  refine LV_aload_n (n := 345) dL_law_344 rfl rfl rfl ?_
  refine LV_iload_n (n := 346) dL_law_345 rfl rfl rfl ?_
  refine LV_iconst (v := nI 1) (n := 347) dL_law_346 rfl rfl ?_
  refine LV_iaddN (n := 348) dL_law_347 rfl ?_
  refine LV_sld (j := i + 1) (n := 349) dL_law_348 rfl (by omega) hL ?_
  refine LV_run (kc' := kc) (ks' := ks) (ZRun_V (M := ML) (M' := M_X11_drop) (As := [Ai (xs (i + 1))]) (rest := []) (n := 1) (q_drop hR hI (xs (i + 1))) cb_X11_drop wd_2_104 wd_2_105 wd_2_106 (cR_k hR) (by decide) rfl rfl dL_law_349 (Nat.le_of_ble_eq_true rfl) (Nat.le_of_ble_eq_true rfl)) (Nat.add_le_add_left (Nat.le_of_ble_eq_true rfl) _) (Nat.add_le_add_left (Nat.le_of_ble_eq_true rfl) _) rfl (fun r9 σ9 hp9 hz9 => ?_)
  obtain ⟨rfl, hR9⟩ := hp9
  refine LV_aload_n (n := 353) dL_law_352 rfl rfl rfl ?_
  refine LV_aload_n (n := 354) dL_law_353 rfl rfl rfl ?_
  refine LV_iload_n (n := 355) dL_law_354 rfl rfl rfl ?_
  refine LV_iconst (v := nI 1) (n := 356) dL_law_355 rfl rfl ?_
  refine LV_iaddN (n := 357) dL_law_356 rfl ?_
  refine LV_sld (j := i + 1) (n := 358) dL_law_357 rfl (by omega) hL ?_
  refine LV_swap ?_
  refine LV_run (kc' := kc) (ks' := ks) (ZRun_V (M := ML) (M' := M_X12_drop) (As := [Ai (xs (i + 1))]) (rest := [Ai _]) (n := 1) (c_drop (rR_zU hM _) hI (xs (i + 1))) cb_X12_drop wd_5_129 wd_5_130 wd_5_131 (rf_sh (rR_zU hM (zn σ9))).1 (by decide) rfl rfl dL_law_358 (Nat.le_of_ble_eq_true rfl) (Nat.le_of_ble_eq_true rfl)) (Nat.le_refl _) (Nat.le_refl _) rfl (fun r8 ρ8 hp8 hz8 => ?_)
  obtain ⟨rfl, hM8⟩ := hp8
  refine LV_swap ?_
  refine LV_icmp_eq (tgt := 1684) (n := 364) dL_law_361 (by decide) rfl (fun _ => ?_) (fun h9 => absurd rfl h9)
  exact k _ _ _ (cR_zU hR9 hz8) hM8 (ki_drop hI _)
set_option maxHeartbeats 1000000 in
theorem lw_case_4 {b L : Nat} {xs : Nat → Int32} (hL : L ≤ 3584) {c x i kc ks : Nat} {σ ρ : ZS} {T : TS} (hR : cR c σ T) (hM : rR x ρ T) (hI : tI T) (hi : i + 7 ≤ L) (k : ∀ (σ' ρ' : ZS) (T' : TS), cR c σ' T' → rR x ρ' T' → tI T' → LV b L xs 1684 [some (Ar (some b)), some (Ar (some c)), some (Ar (some x)), some (Ai (nI i))] [] σ' ρ' kc ks) : LV b L xs 366 [some (Ar (some b)), some (Ar (some c)), some (Ar (some x)), some (Ai (nI i))] [] σ ρ (kc + 8) (ks + 200) := by
  refine LV_aload_n (n := 367) dL_law_366 rfl rfl rfl ?_
  refine LV_aload_n (n := 368) dL_law_367 rfl rfl rfl ?_
  refine LV_iload_n (n := 369) dL_law_368 rfl rfl rfl ?_
  refine LV_iconst (v := nI 1) (n := 370) dL_law_369 rfl rfl ?_
  refine LV_iaddN (n := 371) dL_law_370 rfl ?_
  refine LV_sld (j := i + 1) (n := 372) dL_law_371 rfl (by omega) hL ?_
  refine LV_aload_n (n := 373) dL_law_372 rfl rfl rfl ?_
  refine LV_iload_n (n := 374) dL_law_373 rfl rfl rfl ?_
  refine LV_iconst (v := nI 2) (n := 375) dL_law_374 rfl rfl ?_
  refine LV_iaddN (n := 376) dL_law_375 rfl ?_
  refine LV_sld (j := i + 2) (n := 377) dL_law_376 rfl (by omega) hL ?_
  refine LV_run (kc' := kc) (ks' := ks) (ZRun_V (M := ML) (M' := M_X11_chord) (As := [Ai (xs (i + 1)), Ai (xs (i + 2))]) (rest := []) (n := 2) (q_chord hR hI (xs (i + 1)) (xs (i + 2))) cb_X11_chord wd_2_136 wd_2_137 wd_2_138 (cR_k hR) (by decide) rfl rfl dL_law_377 (Nat.le_of_ble_eq_true rfl) (Nat.le_of_ble_eq_true rfl)) (Nat.add_le_add_left (Nat.le_of_ble_eq_true rfl) _) (Nat.add_le_add_left (Nat.le_of_ble_eq_true rfl) _) rfl (fun r9 σ9 hp9 hz9 => ?_)
  obtain ⟨rfl, hR9⟩ := hp9
  refine LV_aload_n (n := 381) dL_law_380 rfl rfl rfl ?_
  refine LV_aload_n (n := 382) dL_law_381 rfl rfl rfl ?_
  refine LV_iload_n (n := 383) dL_law_382 rfl rfl rfl ?_
  refine LV_iconst (v := nI 1) (n := 384) dL_law_383 rfl rfl ?_
  refine LV_iaddN (n := 385) dL_law_384 rfl ?_
  refine LV_sld (j := i + 1) (n := 386) dL_law_385 rfl (by omega) hL ?_
  refine LV_aload_n (n := 387) dL_law_386 rfl rfl rfl ?_
  refine LV_iload_n (n := 388) dL_law_387 rfl rfl rfl ?_
  refine LV_iconst (v := nI 2) (n := 389) dL_law_388 rfl rfl ?_
  refine LV_iaddN (n := 390) dL_law_389 rfl ?_
  refine LV_sld (j := i + 2) (n := 391) dL_law_390 rfl (by omega) hL ?_
  refine LV_swap ?_
  refine LV_run (kc' := kc) (ks' := ks) (ZRun_V (M := ML) (M' := M_X12_chord) (As := [Ai (xs (i + 1)), Ai (xs (i + 2))]) (rest := [Ai _]) (n := 2) (c_chord (rR_zU hM _) hI (xs (i + 1)) (xs (i + 2))) cb_X12_chord wd_5_141 wd_5_142 wd_5_143 (rf_sh (rR_zU hM (zn σ9))).1 (by decide) rfl rfl dL_law_391 (Nat.le_of_ble_eq_true rfl) (Nat.le_of_ble_eq_true rfl)) (Nat.le_refl _) (Nat.le_refl _) rfl (fun r8 ρ8 hp8 hz8 => ?_)
  obtain ⟨rfl, hM8⟩ := hp8
  refine LV_swap ?_
  refine LV_icmp_eq (tgt := 1684) (n := 397) dL_law_394 (by decide) rfl (fun _ => ?_) (fun h9 => absurd rfl h9)
  exact k _ _ _ (cR_zU hR9 hz8) hM8 (ki_chord hI _ _)
set_option maxHeartbeats 1000000 in
theorem lw_case_5 {b L : Nat} {xs : Nat → Int32} (hL : L ≤ 3584) {c x i kc ks : Nat} {σ ρ : ZS} {T : TS} (hR : cR c σ T) (hM : rR x ρ T) (hI : tI T) (hi : i + 7 ≤ L) (k : ∀ (σ' ρ' : ZS) (T' : TS), cR c σ' T' → rR x ρ' T' → tI T' → LV b L xs 1684 [some (Ar (some b)), some (Ar (some c)), some (Ar (some x)), some (Ai (nI i))] [] σ' ρ' kc ks) : LV b L xs 399 [some (Ar (some b)), some (Ar (some c)), some (Ar (some x)), some (Ai (nI i))] [] σ ρ (kc + 8) (ks + 200) := by
  refine LV_aload_n (n := 400) dL_law_399 rfl rfl rfl ?_
  refine LV_aload_n (n := 401) dL_law_400 rfl rfl rfl ?_
  refine LV_iload_n (n := 402) dL_law_401 rfl rfl rfl ?_
  refine LV_iconst (v := nI 1) (n := 403) dL_law_402 rfl rfl ?_
  refine LV_iaddN (n := 404) dL_law_403 rfl ?_
  refine LV_sld (j := i + 1) (n := 405) dL_law_404 rfl (by omega) hL ?_
  refine LV_aload_n (n := 406) dL_law_405 rfl rfl rfl ?_
  refine LV_iload_n (n := 407) dL_law_406 rfl rfl rfl ?_
  refine LV_iconst (v := nI 2) (n := 408) dL_law_407 rfl rfl ?_
  refine LV_iaddN (n := 409) dL_law_408 rfl ?_
  refine LV_sld (j := i + 2) (n := 410) dL_law_409 rfl (by omega) hL ?_
  refine LV_run (kc' := kc) (ks' := ks) (ZRun_V (M := ML) (M' := M_X11_pitch) (As := [Ai (xs (i + 1)), Ai (xs (i + 2))]) (rest := []) (n := 2) (q_pitch hR hI (xs (i + 1)) (xs (i + 2))) cb_X11_pitch wd_2_156 wd_2_157 wd_2_158 (cR_k hR) (by decide) rfl rfl dL_law_410 (Nat.le_of_ble_eq_true rfl) (Nat.le_of_ble_eq_true rfl)) (Nat.add_le_add_left (Nat.le_of_ble_eq_true rfl) _) (Nat.add_le_add_left (Nat.le_of_ble_eq_true rfl) _) rfl (fun r9 σ9 hp9 hz9 => ?_)
  obtain ⟨rfl, hR9⟩ := hp9
  refine LV_aload_n (n := 414) dL_law_413 rfl rfl rfl ?_
  refine LV_aload_n (n := 415) dL_law_414 rfl rfl rfl ?_
  refine LV_iload_n (n := 416) dL_law_415 rfl rfl rfl ?_
  refine LV_iconst (v := nI 1) (n := 417) dL_law_416 rfl rfl ?_
  refine LV_iaddN (n := 418) dL_law_417 rfl ?_
  refine LV_sld (j := i + 1) (n := 419) dL_law_418 rfl (by omega) hL ?_
  refine LV_aload_n (n := 420) dL_law_419 rfl rfl rfl ?_
  refine LV_iload_n (n := 421) dL_law_420 rfl rfl rfl ?_
  refine LV_iconst (v := nI 2) (n := 422) dL_law_421 rfl rfl ?_
  refine LV_iaddN (n := 423) dL_law_422 rfl ?_
  refine LV_sld (j := i + 2) (n := 424) dL_law_423 rfl (by omega) hL ?_
  refine LV_swap ?_
  refine LV_run (kc' := kc) (ks' := ks) (ZRun_V (M := ML) (M' := M_X12_pitch) (As := [Ai (xs (i + 1)), Ai (xs (i + 2))]) (rest := [Ai _]) (n := 2) (c_pitch (rR_zU hM _) hI (xs (i + 1)) (xs (i + 2))) cb_X12_pitch wd_5_149 wd_5_150 wd_5_151 (rf_sh (rR_zU hM (zn σ9))).1 (by decide) rfl rfl dL_law_424 (Nat.le_of_ble_eq_true rfl) (Nat.le_of_ble_eq_true rfl)) (Nat.le_refl _) (Nat.le_refl _) rfl (fun r8 ρ8 hp8 hz8 => ?_)
  obtain ⟨rfl, hM8⟩ := hp8
  refine LV_swap ?_
  refine LV_icmp_eq (tgt := 1684) (n := 430) dL_law_427 (by decide) rfl (fun _ => ?_) (fun h9 => absurd rfl h9)
  exact k _ _ _ (cR_zU hR9 hz8) hM8 (ki_pitch hI _ _)
set_option maxHeartbeats 1000000 in
theorem lw_case_6 {b L : Nat} {xs : Nat → Int32} (hL : L ≤ 3584) {c x i kc ks : Nat} {σ ρ : ZS} {T : TS} (hR : cR c σ T) (hM : rR x ρ T) (hI : tI T) (hi : i + 7 ≤ L) (k : ∀ (σ' ρ' : ZS) (T' : TS), cR c σ' T' → rR x ρ' T' → tI T' → LV b L xs 1684 [some (Ar (some b)), some (Ar (some c)), some (Ar (some x)), some (Ai (nI i))] [] σ' ρ' kc ks) : LV b L xs 432 [some (Ar (some b)), some (Ar (some c)), some (Ar (some x)), some (Ai (nI i))] [] σ ρ (kc + 8) (ks + 200) := by
  refine LV_aload_n (n := 433) dL_law_432 rfl rfl rfl ?_
  refine LV_aload_n (n := 434) dL_law_433 rfl rfl rfl ?_
  refine LV_iload_n (n := 435) dL_law_434 rfl rfl rfl ?_
  refine LV_iconst (v := nI 1) (n := 436) dL_law_435 rfl rfl ?_
  refine LV_iaddN (n := 437) dL_law_436 rfl ?_
  refine LV_sld (j := i + 1) (n := 438) dL_law_437 rfl (by omega) hL ?_
  refine LV_aload_n (n := 439) dL_law_438 rfl rfl rfl ?_
  refine LV_iload_n (n := 440) dL_law_439 rfl rfl rfl ?_
  refine LV_iconst (v := nI 2) (n := 441) dL_law_440 rfl rfl ?_
  refine LV_iaddN (n := 442) dL_law_441 rfl ?_
  refine LV_sld (j := i + 2) (n := 443) dL_law_442 rfl (by omega) hL ?_
  refine LV_run (kc' := kc) (ks' := ks) (ZRun_V (M := ML) (M' := M_X11_heard) (As := [Ai (xs (i + 1)), Ai (xs (i + 2))]) (rest := []) (n := 2) (q_heard hR hI (xs (i + 1)) (xs (i + 2))) cb_X11_heard wd_2_168 wd_2_169 wd_2_170 (cR_k hR) (by decide) rfl rfl dL_law_443 (Nat.le_of_ble_eq_true rfl) (Nat.le_of_ble_eq_true rfl)) (Nat.add_le_add_left (Nat.le_of_ble_eq_true rfl) _) (Nat.add_le_add_left (Nat.le_of_ble_eq_true rfl) _) rfl (fun r9 σ9 hp9 hz9 => ?_)
  obtain ⟨rfl, hR9⟩ := hp9
  refine LV_aload_n (n := 447) dL_law_446 rfl rfl rfl ?_
  refine LV_aload_n (n := 448) dL_law_447 rfl rfl rfl ?_
  refine LV_iload_n (n := 449) dL_law_448 rfl rfl rfl ?_
  refine LV_iconst (v := nI 1) (n := 450) dL_law_449 rfl rfl ?_
  refine LV_iaddN (n := 451) dL_law_450 rfl ?_
  refine LV_sld (j := i + 1) (n := 452) dL_law_451 rfl (by omega) hL ?_
  refine LV_aload_n (n := 453) dL_law_452 rfl rfl rfl ?_
  refine LV_iload_n (n := 454) dL_law_453 rfl rfl rfl ?_
  refine LV_iconst (v := nI 2) (n := 455) dL_law_454 rfl rfl ?_
  refine LV_iaddN (n := 456) dL_law_455 rfl ?_
  refine LV_sld (j := i + 2) (n := 457) dL_law_456 rfl (by omega) hL ?_
  refine LV_swap ?_
  refine LV_run (kc' := kc) (ks' := ks) (ZRun_V (M := ML) (M' := M_X12_heard) (As := [Ai (xs (i + 1)), Ai (xs (i + 2))]) (rest := [Ai _]) (n := 2) (c_heard (rR_zU hM _) hI (xs (i + 1)) (xs (i + 2))) cb_X12_heard wd_5_157 wd_5_158 wd_5_159 (rf_sh (rR_zU hM (zn σ9))).1 (by decide) rfl rfl dL_law_457 (Nat.le_of_ble_eq_true rfl) (Nat.le_of_ble_eq_true rfl)) (Nat.le_refl _) (Nat.le_refl _) rfl (fun r8 ρ8 hp8 hz8 => ?_)
  obtain ⟨rfl, hM8⟩ := hp8
  refine LV_swap ?_
  refine LV_icmp_eq (tgt := 1684) (n := 463) dL_law_460 (by decide) rfl (fun _ => ?_) (fun h9 => absurd rfl h9)
  exact k _ _ _ (cR_zU hR9 hz8) hM8 (ki_heard hI _ _)
set_option maxHeartbeats 1000000 in
theorem lw_case_7 {b L : Nat} {xs : Nat → Int32} (hL : L ≤ 3584) {c x i kc ks : Nat} {σ ρ : ZS} {T : TS} (hR : cR c σ T) (hM : rR x ρ T) (hI : tI T) (hi : i + 7 ≤ L) (k : ∀ (σ' ρ' : ZS) (T' : TS), cR c σ' T' → rR x ρ' T' → tI T' → LV b L xs 1684 [some (Ar (some b)), some (Ar (some c)), some (Ar (some x)), some (Ai (nI i))] [] σ' ρ' kc ks) : LV b L xs 465 [some (Ar (some b)), some (Ar (some c)), some (Ar (some x)), some (Ai (nI i))] [] σ ρ (kc + 8) (ks + 200) := by
  refine LV_aload_n (n := 466) dL_law_465 rfl rfl rfl ?_
  refine LV_aload_n (n := 467) dL_law_466 rfl rfl rfl ?_
  refine LV_iload_n (n := 468) dL_law_467 rfl rfl rfl ?_
  refine LV_iconst (v := nI 1) (n := 469) dL_law_468 rfl rfl ?_
  refine LV_iaddN (n := 470) dL_law_469 rfl ?_
  refine LV_sld (j := i + 1) (n := 471) dL_law_470 rfl (by omega) hL ?_
  refine LV_aload_n (n := 472) dL_law_471 rfl rfl rfl ?_
  refine LV_iload_n (n := 473) dL_law_472 rfl rfl rfl ?_
  refine LV_iconst (v := nI 2) (n := 474) dL_law_473 rfl rfl ?_
  refine LV_iaddN (n := 475) dL_law_474 rfl ?_
  refine LV_sld (j := i + 2) (n := 476) dL_law_475 rfl (by omega) hL ?_
  refine LV_run (kc' := kc) (ks' := ks) (ZRun_V (M := ML) (M' := M_X11_shift) (As := [Ai (xs (i + 1)), Ai (xs (i + 2))]) (rest := []) (n := 2) (q_shift hR hI (xs (i + 1)) (xs (i + 2))) cb_X11_shift wd_2_207 wd_2_208 wd_2_209 (cR_k hR) (by decide) rfl rfl dL_law_476 (Nat.le_of_ble_eq_true rfl) (Nat.le_of_ble_eq_true rfl)) (Nat.add_le_add_left (Nat.le_of_ble_eq_true rfl) _) (Nat.add_le_add_left (Nat.le_of_ble_eq_true rfl) _) rfl (fun r9 σ9 hp9 hz9 => ?_)
  obtain ⟨rfl, hR9⟩ := hp9
  refine LV_aload_n (n := 480) dL_law_479 rfl rfl rfl ?_
  refine LV_aload_n (n := 481) dL_law_480 rfl rfl rfl ?_
  refine LV_iload_n (n := 482) dL_law_481 rfl rfl rfl ?_
  refine LV_iconst (v := nI 1) (n := 483) dL_law_482 rfl rfl ?_
  refine LV_iaddN (n := 484) dL_law_483 rfl ?_
  refine LV_sld (j := i + 1) (n := 485) dL_law_484 rfl (by omega) hL ?_
  refine LV_aload_n (n := 486) dL_law_485 rfl rfl rfl ?_
  refine LV_iload_n (n := 487) dL_law_486 rfl rfl rfl ?_
  refine LV_iconst (v := nI 2) (n := 488) dL_law_487 rfl rfl ?_
  refine LV_iaddN (n := 489) dL_law_488 rfl ?_
  refine LV_sld (j := i + 2) (n := 490) dL_law_489 rfl (by omega) hL ?_
  refine LV_swap ?_
  refine LV_run (kc' := kc) (ks' := ks) (ZRun_V (M := ML) (M' := M_X12_shift) (As := [Ai (xs (i + 1)), Ai (xs (i + 2))]) (rest := [Ai _]) (n := 2) (c_shift (rR_zU hM _) hI (xs (i + 1)) (xs (i + 2))) cb_X12_shift wd_5_169 wd_5_170 wd_5_171 (rf_sh (rR_zU hM (zn σ9))).1 (by decide) rfl rfl dL_law_490 (Nat.le_of_ble_eq_true rfl) (Nat.le_of_ble_eq_true rfl)) (Nat.le_refl _) (Nat.le_refl _) rfl (fun r8 ρ8 hp8 hz8 => ?_)
  obtain ⟨rfl, hM8⟩ := hp8
  refine LV_swap ?_
  refine LV_icmp_eq (tgt := 1684) (n := 496) dL_law_493 (by decide) rfl (fun _ => ?_) (fun h9 => absurd rfl h9)
  exact k _ _ _ (cR_zU hR9 hz8) hM8 (ki_shift hI _ _)
set_option maxHeartbeats 1000000 in
theorem lw_case_8 {b L : Nat} {xs : Nat → Int32} (hL : L ≤ 3584) {c x i kc ks : Nat} {σ ρ : ZS} {T : TS} (hR : cR c σ T) (hM : rR x ρ T) (hI : tI T) (hi : i + 7 ≤ L) (k : ∀ (σ' ρ' : ZS) (T' : TS), cR c σ' T' → rR x ρ' T' → tI T' → LV b L xs 1684 [some (Ar (some b)), some (Ar (some c)), some (Ar (some x)), some (Ai (nI i))] [] σ' ρ' kc ks) : LV b L xs 498 [some (Ar (some b)), some (Ar (some c)), some (Ar (some x)), some (Ai (nI i))] [] σ ρ (kc + 8) (ks + 200) := by
  refine LV_aload_n (n := 499) dL_law_498 rfl rfl rfl ?_
  refine LV_aload_n (n := 500) dL_law_499 rfl rfl rfl ?_
  refine LV_iload_n (n := 501) dL_law_500 rfl rfl rfl ?_
  refine LV_iconst (v := nI 1) (n := 502) dL_law_501 rfl rfl ?_
  refine LV_iaddN (n := 503) dL_law_502 rfl ?_
  refine LV_sld (j := i + 1) (n := 504) dL_law_503 rfl (by omega) hL ?_
  refine LV_aload_n (n := 505) dL_law_504 rfl rfl rfl ?_
  refine LV_iload_n (n := 506) dL_law_505 rfl rfl rfl ?_
  refine LV_iconst (v := nI 2) (n := 507) dL_law_506 rfl rfl ?_
  refine LV_iaddN (n := 508) dL_law_507 rfl ?_
  refine LV_sld (j := i + 2) (n := 509) dL_law_508 rfl (by omega) hL ?_
  refine LV_run (kc' := kc) (ks' := ks) (ZRun_V (M := ML) (M' := M_X11_transpose) (As := [Ai (xs (i + 1)), Ai (xs (i + 2))]) (rest := []) (n := 2) (q_transpose hR hI (xs (i + 1)) (xs (i + 2))) cb_X11_transpose wd_2_221 wd_2_222 wd_2_223 (cR_k hR) (by decide) rfl rfl dL_law_509 (Nat.le_of_ble_eq_true rfl) (Nat.le_of_ble_eq_true rfl)) (Nat.add_le_add_left (Nat.le_of_ble_eq_true rfl) _) (Nat.add_le_add_left (Nat.le_of_ble_eq_true rfl) _) rfl (fun r9 σ9 hp9 hz9 => ?_)
  obtain ⟨rfl, hR9⟩ := hp9
  refine LV_aload_n (n := 513) dL_law_512 rfl rfl rfl ?_
  refine LV_aload_n (n := 514) dL_law_513 rfl rfl rfl ?_
  refine LV_iload_n (n := 515) dL_law_514 rfl rfl rfl ?_
  refine LV_iconst (v := nI 1) (n := 516) dL_law_515 rfl rfl ?_
  refine LV_iaddN (n := 517) dL_law_516 rfl ?_
  refine LV_sld (j := i + 1) (n := 518) dL_law_517 rfl (by omega) hL ?_
  refine LV_aload_n (n := 519) dL_law_518 rfl rfl rfl ?_
  refine LV_iload_n (n := 520) dL_law_519 rfl rfl rfl ?_
  refine LV_iconst (v := nI 2) (n := 521) dL_law_520 rfl rfl ?_
  refine LV_iaddN (n := 522) dL_law_521 rfl ?_
  refine LV_sld (j := i + 2) (n := 523) dL_law_522 rfl (by omega) hL ?_
  refine LV_swap ?_
  refine LV_run (kc' := kc) (ks' := ks) (ZRun_V (M := ML) (M' := M_X12_transpose) (As := [Ai (xs (i + 1)), Ai (xs (i + 2))]) (rest := [Ai _]) (n := 2) (c_transpose (rR_zU hM _) hI (xs (i + 1)) (xs (i + 2))) cb_X12_transpose wd_5_181 wd_5_182 wd_5_183 (rf_sh (rR_zU hM (zn σ9))).1 (by decide) rfl rfl dL_law_523 (Nat.le_of_ble_eq_true rfl) (Nat.le_of_ble_eq_true rfl)) (Nat.le_refl _) (Nat.le_refl _) rfl (fun r8 ρ8 hp8 hz8 => ?_)
  obtain ⟨rfl, hM8⟩ := hp8
  refine LV_swap ?_
  refine LV_icmp_eq (tgt := 1684) (n := 529) dL_law_526 (by decide) rfl (fun _ => ?_) (fun h9 => absurd rfl h9)
  exact k _ _ _ (cR_zU hR9 hz8) hM8 (ki_transpose hI _ _)
set_option maxHeartbeats 1000000 in
theorem lw_case_9 {b L : Nat} {xs : Nat → Int32} (hL : L ≤ 3584) {c x i kc ks : Nat} {σ ρ : ZS} {T : TS} (hR : cR c σ T) (hM : rR x ρ T) (hI : tI T) (hi : i + 7 ≤ L) (k : ∀ (σ' ρ' : ZS) (T' : TS), cR c σ' T' → rR x ρ' T' → tI T' → LV b L xs 1684 [some (Ar (some b)), some (Ar (some c)), some (Ar (some x)), some (Ai (nI i))] [] σ' ρ' kc ks) : LV b L xs 531 [some (Ar (some b)), some (Ar (some c)), some (Ar (some x)), some (Ai (nI i))] [] σ ρ (kc + 8) (ks + 200) := by
  by_cases hz : xs (i + 2) = 0
  · skip
    refine LV_aload_n (n := 532) dL_law_531 rfl rfl rfl ?_
    refine LV_aload_n (n := 533) dL_law_532 rfl rfl rfl ?_
    refine LV_iload_n (n := 534) dL_law_533 rfl rfl rfl ?_
    refine LV_iconst (v := nI 1) (n := 535) dL_law_534 rfl rfl ?_
    refine LV_iaddN (n := 536) dL_law_535 rfl ?_
    refine LV_sld (j := i + 1) (n := 537) dL_law_536 rfl (by omega) hL ?_
    refine LV_aload_n (n := 538) dL_law_537 rfl rfl rfl ?_
    refine LV_iload_n (n := 539) dL_law_538 rfl rfl rfl ?_
    refine LV_iconst (v := nI 2) (n := 540) dL_law_539 rfl rfl ?_
    refine LV_iaddN (n := 541) dL_law_540 rfl ?_
    refine LV_sld (j := i + 2) (n := 542) dL_law_541 rfl (by omega) hL ?_
    refine LV_if_eq (tgt := 549) (n := 545) dL_law_542 (by decide) rfl (fun hz9 => ?_) (fun hz9 => ?_)
    · skip
      refine LV_iconst (v := nI 0) (n := 550) dL_law_549 rfl rfl ?_
      refine LV_run (kc' := kc) (ks' := ks) (ZRun_V (M := ML) (M' := M_X11_tie) (As := [Ai (xs (i + 1)), Ai (bI false)]) (rest := []) (n := 2) (q_tie hR hI (xs (i + 1)) false) cb_X11_tie wd_2_225 wd_2_226 wd_2_227 (cR_k hR) (by decide) rfl rfl dL_law_550 (Nat.le_of_ble_eq_true rfl) (Nat.le_of_ble_eq_true rfl)) (Nat.add_le_add_left (Nat.le_of_ble_eq_true rfl) _) (Nat.add_le_add_left (Nat.le_of_ble_eq_true rfl) _) rfl (fun r9 σ9 hp9 hz9 => ?_)
      obtain ⟨rfl, hR9⟩ := hp9
      refine LV_aload_n (n := 554) dL_law_553 rfl rfl rfl ?_
      refine LV_aload_n (n := 555) dL_law_554 rfl rfl rfl ?_
      refine LV_iload_n (n := 556) dL_law_555 rfl rfl rfl ?_
      refine LV_iconst (v := nI 1) (n := 557) dL_law_556 rfl rfl ?_
      refine LV_iaddN (n := 558) dL_law_557 rfl ?_
      refine LV_sld (j := i + 1) (n := 559) dL_law_558 rfl (by omega) hL ?_
      refine LV_aload_n (n := 560) dL_law_559 rfl rfl rfl ?_
      refine LV_iload_n (n := 561) dL_law_560 rfl rfl rfl ?_
      refine LV_iconst (v := nI 2) (n := 562) dL_law_561 rfl rfl ?_
      refine LV_iaddN (n := 563) dL_law_562 rfl ?_
      refine LV_sld (j := i + 2) (n := 564) dL_law_563 rfl (by omega) hL ?_
      refine LV_if_eq (tgt := 571) (n := 567) dL_law_564 (by decide) rfl (fun hz9 => ?_) (fun hz9 => ?_)
      · skip
        refine LV_iconst (v := nI 0) (n := 572) dL_law_571 rfl rfl ?_
        refine LV_swap ?_
        refine LV_run (kc' := kc) (ks' := ks) (ZRun_V (M := ML) (M' := M_X12_tie) (As := [Ai (xs (i + 1)), Ai (bI false)]) (rest := [Ai _]) (n := 2) (c_tie (rR_zU hM _) hI (xs (i + 1)) false) cb_X12_tie wd_5_185 wd_5_186 wd_5_187 (rf_sh (rR_zU hM (zn σ9))).1 (by decide) rfl rfl dL_law_572 (Nat.le_of_ble_eq_true rfl) (Nat.le_of_ble_eq_true rfl)) (Nat.le_refl _) (Nat.le_refl _) rfl (fun r8 ρ8 hp8 hz8 => ?_)
        obtain ⟨rfl, hM8⟩ := hp8
        refine LV_swap ?_
        refine LV_icmp_eq (tgt := 1684) (n := 578) dL_law_575 (by decide) rfl (fun _ => ?_) (fun h9 => absurd rfl h9)
        exact k _ _ _ (cR_zU hR9 hz8) hM8 (ki_tie hI _ _)
      · exact absurd hz hz9
    · exact absurd hz hz9
  · skip
    refine LV_aload_n (n := 532) dL_law_531 rfl rfl rfl ?_
    refine LV_aload_n (n := 533) dL_law_532 rfl rfl rfl ?_
    refine LV_iload_n (n := 534) dL_law_533 rfl rfl rfl ?_
    refine LV_iconst (v := nI 1) (n := 535) dL_law_534 rfl rfl ?_
    refine LV_iaddN (n := 536) dL_law_535 rfl ?_
    refine LV_sld (j := i + 1) (n := 537) dL_law_536 rfl (by omega) hL ?_
    refine LV_aload_n (n := 538) dL_law_537 rfl rfl rfl ?_
    refine LV_iload_n (n := 539) dL_law_538 rfl rfl rfl ?_
    refine LV_iconst (v := nI 2) (n := 540) dL_law_539 rfl rfl ?_
    refine LV_iaddN (n := 541) dL_law_540 rfl ?_
    refine LV_sld (j := i + 2) (n := 542) dL_law_541 rfl (by omega) hL ?_
    refine LV_if_eq (tgt := 549) (n := 545) dL_law_542 (by decide) rfl (fun hz9 => ?_) (fun hz9 => ?_)
    · exact absurd hz9 hz
    · skip
      refine LV_iconst (v := nI 1) (n := 546) dL_law_545 rfl rfl ?_
      refine LV_goto (tgt := 550) dL_law_546 (by decide) ?_
      refine LV_run (kc' := kc) (ks' := ks) (ZRun_V (M := ML) (M' := M_X11_tie) (As := [Ai (xs (i + 1)), Ai (bI true)]) (rest := []) (n := 2) (q_tie hR hI (xs (i + 1)) true) cb_X11_tie wd_2_225 wd_2_226 wd_2_227 (cR_k hR) (by decide) rfl rfl dL_law_550 (Nat.le_of_ble_eq_true rfl) (Nat.le_of_ble_eq_true rfl)) (Nat.add_le_add_left (Nat.le_of_ble_eq_true rfl) _) (Nat.add_le_add_left (Nat.le_of_ble_eq_true rfl) _) rfl (fun r9 σ9 hp9 hz9 => ?_)
      obtain ⟨rfl, hR9⟩ := hp9
      refine LV_aload_n (n := 554) dL_law_553 rfl rfl rfl ?_
      refine LV_aload_n (n := 555) dL_law_554 rfl rfl rfl ?_
      refine LV_iload_n (n := 556) dL_law_555 rfl rfl rfl ?_
      refine LV_iconst (v := nI 1) (n := 557) dL_law_556 rfl rfl ?_
      refine LV_iaddN (n := 558) dL_law_557 rfl ?_
      refine LV_sld (j := i + 1) (n := 559) dL_law_558 rfl (by omega) hL ?_
      refine LV_aload_n (n := 560) dL_law_559 rfl rfl rfl ?_
      refine LV_iload_n (n := 561) dL_law_560 rfl rfl rfl ?_
      refine LV_iconst (v := nI 2) (n := 562) dL_law_561 rfl rfl ?_
      refine LV_iaddN (n := 563) dL_law_562 rfl ?_
      refine LV_sld (j := i + 2) (n := 564) dL_law_563 rfl (by omega) hL ?_
      refine LV_if_eq (tgt := 571) (n := 567) dL_law_564 (by decide) rfl (fun hz9 => ?_) (fun hz9 => ?_)
      · exact absurd hz9 hz
      · skip
        refine LV_iconst (v := nI 1) (n := 568) dL_law_567 rfl rfl ?_
        refine LV_goto (tgt := 572) dL_law_568 (by decide) ?_
        refine LV_swap ?_
        refine LV_run (kc' := kc) (ks' := ks) (ZRun_V (M := ML) (M' := M_X12_tie) (As := [Ai (xs (i + 1)), Ai (bI true)]) (rest := [Ai _]) (n := 2) (c_tie (rR_zU hM _) hI (xs (i + 1)) true) cb_X12_tie wd_5_185 wd_5_186 wd_5_187 (rf_sh (rR_zU hM (zn σ9))).1 (by decide) rfl rfl dL_law_572 (Nat.le_of_ble_eq_true rfl) (Nat.le_of_ble_eq_true rfl)) (Nat.le_refl _) (Nat.le_refl _) rfl (fun r8 ρ8 hp8 hz8 => ?_)
        obtain ⟨rfl, hM8⟩ := hp8
        refine LV_swap ?_
        refine LV_icmp_eq (tgt := 1684) (n := 578) dL_law_575 (by decide) rfl (fun _ => ?_) (fun h9 => absurd rfl h9)
        exact k _ _ _ (cR_zU hR9 hz8) hM8 (ki_tie hI _ _)
set_option maxHeartbeats 1000000 in
theorem lw_case_10 {b L : Nat} {xs : Nat → Int32} (hL : L ≤ 3584) {c x i kc ks : Nat} {σ ρ : ZS} {T : TS} (hR : cR c σ T) (hM : rR x ρ T) (hI : tI T) (hi : i + 7 ≤ L) (k : ∀ (σ' ρ' : ZS) (T' : TS), cR c σ' T' → rR x ρ' T' → tI T' → LV b L xs 1684 [some (Ar (some b)), some (Ar (some c)), some (Ar (some x)), some (Ai (nI i))] [] σ' ρ' kc ks) : LV b L xs 580 [some (Ar (some b)), some (Ar (some c)), some (Ar (some x)), some (Ai (nI i))] [] σ ρ (kc + 8) (ks + 200) := by
  refine LV_aload_n (n := 581) dL_law_580 rfl rfl rfl ?_
  refine LV_aload_n (n := 582) dL_law_581 rfl rfl rfl ?_
  refine LV_iload_n (n := 583) dL_law_582 rfl rfl rfl ?_
  refine LV_iconst (v := nI 1) (n := 584) dL_law_583 rfl rfl ?_
  refine LV_iaddN (n := 585) dL_law_584 rfl ?_
  refine LV_sld (j := i + 1) (n := 586) dL_law_585 rfl (by omega) hL ?_
  refine LV_aload_n (n := 587) dL_law_586 rfl rfl rfl ?_
  refine LV_iload_n (n := 588) dL_law_587 rfl rfl rfl ?_
  refine LV_iconst (v := nI 2) (n := 589) dL_law_588 rfl rfl ?_
  refine LV_iaddN (n := 590) dL_law_589 rfl ?_
  refine LV_sld (j := i + 2) (n := 591) dL_law_590 rfl (by omega) hL ?_
  refine LV_aload_n (n := 592) dL_law_591 rfl rfl rfl ?_
  refine LV_iload_n (n := 593) dL_law_592 rfl rfl rfl ?_
  refine LV_iconst (v := nI 3) (n := 594) dL_law_593 rfl rfl ?_
  refine LV_iaddN (n := 595) dL_law_594 rfl ?_
  refine LV_sld (j := i + 3) (n := 596) dL_law_595 rfl (by omega) hL ?_
  refine LV_run (kc' := kc) (ks' := ks) (ZRun_V (M := ML) (M' := M_X11_value) (As := [Ai (xs (i + 1)), Ai (xs (i + 2)), Ai (xs (i + 3))]) (rest := []) (n := 3) (q_value hR hI (xs (i + 1)) (xs (i + 2)) (xs (i + 3))) cb_X11_value wd_2_229 wd_2_230 wd_2_231 (cR_k hR) (by decide) rfl rfl dL_law_596 (Nat.le_of_ble_eq_true rfl) (Nat.le_of_ble_eq_true rfl)) (Nat.add_le_add_left (Nat.le_of_ble_eq_true rfl) _) (Nat.add_le_add_left (Nat.le_of_ble_eq_true rfl) _) rfl (fun r9 σ9 hp9 hz9 => ?_)
  obtain ⟨rfl, hR9⟩ := hp9
  refine LV_aload_n (n := 600) dL_law_599 rfl rfl rfl ?_
  refine LV_aload_n (n := 601) dL_law_600 rfl rfl rfl ?_
  refine LV_iload_n (n := 602) dL_law_601 rfl rfl rfl ?_
  refine LV_iconst (v := nI 1) (n := 603) dL_law_602 rfl rfl ?_
  refine LV_iaddN (n := 604) dL_law_603 rfl ?_
  refine LV_sld (j := i + 1) (n := 605) dL_law_604 rfl (by omega) hL ?_
  refine LV_aload_n (n := 606) dL_law_605 rfl rfl rfl ?_
  refine LV_iload_n (n := 607) dL_law_606 rfl rfl rfl ?_
  refine LV_iconst (v := nI 2) (n := 608) dL_law_607 rfl rfl ?_
  refine LV_iaddN (n := 609) dL_law_608 rfl ?_
  refine LV_sld (j := i + 2) (n := 610) dL_law_609 rfl (by omega) hL ?_
  refine LV_aload_n (n := 611) dL_law_610 rfl rfl rfl ?_
  refine LV_iload_n (n := 612) dL_law_611 rfl rfl rfl ?_
  refine LV_iconst (v := nI 3) (n := 613) dL_law_612 rfl rfl ?_
  refine LV_iaddN (n := 614) dL_law_613 rfl ?_
  refine LV_sld (j := i + 3) (n := 615) dL_law_614 rfl (by omega) hL ?_
  refine LV_swap ?_
  refine LV_run (kc' := kc) (ks' := ks) (ZRun_V (M := ML) (M' := M_X12_value) (As := [Ai (xs (i + 1)), Ai (xs (i + 2)), Ai (xs (i + 3))]) (rest := [Ai _]) (n := 3) (c_value (rR_zU hM _) hI (xs (i + 1)) (xs (i + 2)) (xs (i + 3))) cb_X12_value wd_5_189 wd_5_190 wd_5_191 (rf_sh (rR_zU hM (zn σ9))).1 (by decide) rfl rfl dL_law_615 (Nat.le_of_ble_eq_true rfl) (Nat.le_of_ble_eq_true rfl)) (Nat.le_refl _) (Nat.le_refl _) rfl (fun r8 ρ8 hp8 hz8 => ?_)
  obtain ⟨rfl, hM8⟩ := hp8
  refine LV_swap ?_
  refine LV_icmp_eq (tgt := 1684) (n := 621) dL_law_618 (by decide) rfl (fun _ => ?_) (fun h9 => absurd rfl h9)
  exact k _ _ _ (cR_zU hR9 hz8) hM8 (ki_value hI _ _ _)
set_option maxHeartbeats 1000000 in
theorem lw_case_11 {b L : Nat} {xs : Nat → Int32} (hL : L ≤ 3584) {c x i kc ks : Nat} {σ ρ : ZS} {T : TS} (hR : cR c σ T) (hM : rR x ρ T) (hI : tI T) (hi : i + 7 ≤ L) (k : ∀ (σ' ρ' : ZS) (T' : TS), cR c σ' T' → rR x ρ' T' → tI T' → LV b L xs 1684 [some (Ar (some b)), some (Ar (some c)), some (Ar (some x)), some (Ai (nI i))] [] σ' ρ' kc ks) : LV b L xs 623 [some (Ar (some b)), some (Ar (some c)), some (Ar (some x)), some (Ai (nI i))] [] σ ρ (kc + 8) (ks + 200) := by
  refine LV_aload_n (n := 624) dL_law_623 rfl rfl rfl ?_
  refine LV_aload_n (n := 625) dL_law_624 rfl rfl rfl ?_
  refine LV_iload_n (n := 626) dL_law_625 rfl rfl rfl ?_
  refine LV_iconst (v := nI 1) (n := 627) dL_law_626 rfl rfl ?_
  refine LV_iaddN (n := 628) dL_law_627 rfl ?_
  refine LV_sld (j := i + 1) (n := 629) dL_law_628 rfl (by omega) hL ?_
  refine LV_aload_n (n := 630) dL_law_629 rfl rfl rfl ?_
  refine LV_iload_n (n := 631) dL_law_630 rfl rfl rfl ?_
  refine LV_iconst (v := nI 2) (n := 632) dL_law_631 rfl rfl ?_
  refine LV_iaddN (n := 633) dL_law_632 rfl ?_
  refine LV_sld (j := i + 2) (n := 634) dL_law_633 rfl (by omega) hL ?_
  refine LV_run (kc' := kc) (ks' := ks) (ZRun_V (M := ML) (M' := M_X11_at) (As := [Ai (xs (i + 1)), Ai (xs (i + 2))]) (rest := []) (n := 2) (q_at hR hI (xs (i + 1)) (xs (i + 2))) cb_X11_at wd_2_233 wd_2_234 wd_2_235 (cR_k hR) (by decide) rfl rfl dL_law_634 (Nat.le_of_ble_eq_true rfl) (Nat.le_of_ble_eq_true rfl)) (Nat.add_le_add_left (Nat.le_of_ble_eq_true rfl) _) (Nat.add_le_add_left (Nat.le_of_ble_eq_true rfl) _) rfl (fun r9 σ9 hp9 hz9 => ?_)
  obtain ⟨rfl, hR9⟩ := hp9
  refine LV_aload_n (n := 638) dL_law_637 rfl rfl rfl ?_
  refine LV_aload_n (n := 639) dL_law_638 rfl rfl rfl ?_
  refine LV_iload_n (n := 640) dL_law_639 rfl rfl rfl ?_
  refine LV_iconst (v := nI 1) (n := 641) dL_law_640 rfl rfl ?_
  refine LV_iaddN (n := 642) dL_law_641 rfl ?_
  refine LV_sld (j := i + 1) (n := 643) dL_law_642 rfl (by omega) hL ?_
  refine LV_aload_n (n := 644) dL_law_643 rfl rfl rfl ?_
  refine LV_iload_n (n := 645) dL_law_644 rfl rfl rfl ?_
  refine LV_iconst (v := nI 2) (n := 646) dL_law_645 rfl rfl ?_
  refine LV_iaddN (n := 647) dL_law_646 rfl ?_
  refine LV_sld (j := i + 2) (n := 648) dL_law_647 rfl (by omega) hL ?_
  refine LV_swap ?_
  refine LV_run (kc' := kc) (ks' := ks) (ZRun_V (M := ML) (M' := M_X12_at) (As := [Ai (xs (i + 1)), Ai (xs (i + 2))]) (rest := [Ai _]) (n := 2) (c_at (rR_zU hM _) hI (xs (i + 1)) (xs (i + 2))) cb_X12_at wd_5_193 wd_5_194 wd_5_195 (rf_sh (rR_zU hM (zn σ9))).1 (by decide) rfl rfl dL_law_648 (Nat.le_of_ble_eq_true rfl) (Nat.le_of_ble_eq_true rfl)) (Nat.le_refl _) (Nat.le_refl _) rfl (fun r8 ρ8 hp8 hz8 => ?_)
  obtain ⟨rfl, hM8⟩ := hp8
  refine LV_swap ?_
  refine LV_icmp_eq (tgt := 1684) (n := 654) dL_law_651 (by decide) rfl (fun _ => ?_) (fun h9 => absurd rfl h9)
  exact k _ _ _ (cR_zU hR9 hz8) hM8 (ki_at hI _ _)
set_option maxHeartbeats 1000000 in
theorem lw_case_12 {b L : Nat} {xs : Nat → Int32} (hL : L ≤ 3584) {c x i kc ks : Nat} {σ ρ : ZS} {T : TS} (hR : cR c σ T) (hM : rR x ρ T) (hI : tI T) (hi : i + 7 ≤ L) (k : ∀ (σ' ρ' : ZS) (T' : TS), cR c σ' T' → rR x ρ' T' → tI T' → LV b L xs 1684 [some (Ar (some b)), some (Ar (some c)), some (Ar (some x)), some (Ai (nI i))] [] σ' ρ' kc ks) : LV b L xs 656 [some (Ar (some b)), some (Ar (some c)), some (Ar (some x)), some (Ai (nI i))] [] σ ρ (kc + 8) (ks + 200) := by
  refine LV_aload_n (n := 657) dL_law_656 rfl rfl rfl ?_
  refine LV_aload_n (n := 658) dL_law_657 rfl rfl rfl ?_
  refine LV_iload_n (n := 659) dL_law_658 rfl rfl rfl ?_
  refine LV_iconst (v := nI 1) (n := 660) dL_law_659 rfl rfl ?_
  refine LV_iaddN (n := 661) dL_law_660 rfl ?_
  refine LV_sld (j := i + 1) (n := 662) dL_law_661 rfl (by omega) hL ?_
  refine LV_aload_n (n := 663) dL_law_662 rfl rfl rfl ?_
  refine LV_iload_n (n := 664) dL_law_663 rfl rfl rfl ?_
  refine LV_iconst (v := nI 2) (n := 665) dL_law_664 rfl rfl ?_
  refine LV_iaddN (n := 666) dL_law_665 rfl ?_
  refine LV_sld (j := i + 2) (n := 667) dL_law_666 rfl (by omega) hL ?_
  refine LV_run (kc' := kc) (ks' := ks) (ZRun_V (M := ML) (M' := M_X11_time) (As := [Ai (xs (i + 1)), Ai (xs (i + 2))]) (rest := []) (n := 2) (q_time hR hI (xs (i + 1)) (xs (i + 2))) cb_X11_time wd_3_6 wd_3_7 wd_3_8 (cR_k hR) (by decide) rfl rfl dL_law_667 (Nat.le_of_ble_eq_true rfl) (Nat.le_of_ble_eq_true rfl)) (Nat.add_le_add_left (Nat.le_of_ble_eq_true rfl) _) (Nat.add_le_add_left (Nat.le_of_ble_eq_true rfl) _) rfl (fun r9 σ9 hp9 hz9 => ?_)
  obtain ⟨rfl, hR9⟩ := hp9
  refine LV_aload_n (n := 671) dL_law_670 rfl rfl rfl ?_
  refine LV_aload_n (n := 672) dL_law_671 rfl rfl rfl ?_
  refine LV_iload_n (n := 673) dL_law_672 rfl rfl rfl ?_
  refine LV_iconst (v := nI 1) (n := 674) dL_law_673 rfl rfl ?_
  refine LV_iaddN (n := 675) dL_law_674 rfl ?_
  refine LV_sld (j := i + 1) (n := 676) dL_law_675 rfl (by omega) hL ?_
  refine LV_aload_n (n := 677) dL_law_676 rfl rfl rfl ?_
  refine LV_iload_n (n := 678) dL_law_677 rfl rfl rfl ?_
  refine LV_iconst (v := nI 2) (n := 679) dL_law_678 rfl rfl ?_
  refine LV_iaddN (n := 680) dL_law_679 rfl ?_
  refine LV_sld (j := i + 2) (n := 681) dL_law_680 rfl (by omega) hL ?_
  refine LV_swap ?_
  refine LV_run (kc' := kc) (ks' := ks) (ZRun_V (M := ML) (M' := M_X12_time) (As := [Ai (xs (i + 1)), Ai (xs (i + 2))]) (rest := [Al _]) (n := 2) (c_time (rR_zU hM _) hI (xs (i + 1)) (xs (i + 2))) cb_X12_time wd_5_228 wd_5_229 wd_5_230 (rf_sh (rR_zU hM (zn σ9))).1 (by decide) rfl rfl dL_law_681 (Nat.le_of_ble_eq_true rfl) (Nat.le_of_ble_eq_true rfl)) (Nat.le_refl _) (Nat.le_refl _) rfl (fun r8 ρ8 hp8 hz8 => ?_)
  obtain ⟨rfl, hM8⟩ := hp8
  refine LV_swap ?_
  refine LV_lcmp_eq (tgt := 1684) (pc1 := 685) (n := 688) dL_law_684 rfl dL_law_685 (by decide) rfl (fun _ => ?_) (fun h9 => absurd rfl h9)
  exact k _ _ _ (cR_zU hR9 hz8) hM8 (ki_time hI _ _)
set_option maxHeartbeats 1000000 in
theorem lw_case_13 {b L : Nat} {xs : Nat → Int32} (hL : L ≤ 3584) {c x i kc ks : Nat} {σ ρ : ZS} {T : TS} (hR : cR c σ T) (hM : rR x ρ T) (hI : tI T) (hi : i + 7 ≤ L) (k : ∀ (σ' ρ' : ZS) (T' : TS), cR c σ' T' → rR x ρ' T' → tI T' → LV b L xs 1684 [some (Ar (some b)), some (Ar (some c)), some (Ar (some x)), some (Ai (nI i))] [] σ' ρ' kc ks) : LV b L xs 690 [some (Ar (some b)), some (Ar (some c)), some (Ar (some x)), some (Ai (nI i))] [] σ ρ (kc + 8) (ks + 200) := by
  refine LV_aload_n (n := 691) dL_law_690 rfl rfl rfl ?_
  refine LV_aload_n (n := 692) dL_law_691 rfl rfl rfl ?_
  refine LV_iload_n (n := 693) dL_law_692 rfl rfl rfl ?_
  refine LV_iconst (v := nI 1) (n := 694) dL_law_693 rfl rfl ?_
  refine LV_iaddN (n := 695) dL_law_694 rfl ?_
  refine LV_sld (j := i + 1) (n := 696) dL_law_695 rfl (by omega) hL ?_
  refine LV_aload_n (n := 697) dL_law_696 rfl rfl rfl ?_
  refine LV_iload_n (n := 698) dL_law_697 rfl rfl rfl ?_
  refine LV_iconst (v := nI 2) (n := 699) dL_law_698 rfl rfl ?_
  refine LV_iaddN (n := 700) dL_law_699 rfl ?_
  refine LV_sld (j := i + 2) (n := 701) dL_law_700 rfl (by omega) hL ?_
  refine LV_run (kc' := kc) (ks' := ks) (ZRun_V (M := ML) (M' := M_X11_length) (As := [Ai (xs (i + 1)), Ai (xs (i + 2))]) (rest := []) (n := 2) (q_length hR hI (xs (i + 1)) (xs (i + 2))) cb_X11_length wd_3_30 wd_3_31 wd_3_32 (cR_k hR) (by decide) rfl rfl dL_law_701 (Nat.le_of_ble_eq_true rfl) (Nat.le_of_ble_eq_true rfl)) (Nat.add_le_add_left (Nat.le_of_ble_eq_true rfl) _) (Nat.add_le_add_left (Nat.le_of_ble_eq_true rfl) _) rfl (fun r9 σ9 hp9 hz9 => ?_)
  obtain ⟨rfl, hR9⟩ := hp9
  refine LV_aload_n (n := 705) dL_law_704 rfl rfl rfl ?_
  refine LV_aload_n (n := 706) dL_law_705 rfl rfl rfl ?_
  refine LV_iload_n (n := 707) dL_law_706 rfl rfl rfl ?_
  refine LV_iconst (v := nI 1) (n := 708) dL_law_707 rfl rfl ?_
  refine LV_iaddN (n := 709) dL_law_708 rfl ?_
  refine LV_sld (j := i + 1) (n := 710) dL_law_709 rfl (by omega) hL ?_
  refine LV_aload_n (n := 711) dL_law_710 rfl rfl rfl ?_
  refine LV_iload_n (n := 712) dL_law_711 rfl rfl rfl ?_
  refine LV_iconst (v := nI 2) (n := 713) dL_law_712 rfl rfl ?_
  refine LV_iaddN (n := 714) dL_law_713 rfl ?_
  refine LV_sld (j := i + 2) (n := 715) dL_law_714 rfl (by omega) hL ?_
  refine LV_swap ?_
  refine LV_run (kc' := kc) (ks' := ks) (ZRun_V (M := ML) (M' := M_X12_length) (As := [Ai (xs (i + 1)), Ai (xs (i + 2))]) (rest := [Al _]) (n := 2) (c_length (rR_zU hM _) hI (xs (i + 1)) (xs (i + 2))) cb_X12_length wd_5_238 wd_5_239 wd_6_0 (rf_sh (rR_zU hM (zn σ9))).1 (by decide) rfl rfl dL_law_715 (Nat.le_of_ble_eq_true rfl) (Nat.le_of_ble_eq_true rfl)) (Nat.le_refl _) (Nat.le_refl _) rfl (fun r8 ρ8 hp8 hz8 => ?_)
  obtain ⟨rfl, hM8⟩ := hp8
  refine LV_swap ?_
  refine LV_lcmp_eq (tgt := 1684) (pc1 := 719) (n := 722) dL_law_718 rfl dL_law_719 (by decide) rfl (fun _ => ?_) (fun h9 => absurd rfl h9)
  exact k _ _ _ (cR_zU hR9 hz8) hM8 (ki_length hI _ _)
set_option maxHeartbeats 1000000 in
theorem lw_case_14 {b L : Nat} {xs : Nat → Int32} (hL : L ≤ 3584) {c x i kc ks : Nat} {σ ρ : ZS} {T : TS} (hR : cR c σ T) (hM : rR x ρ T) (hI : tI T) (hi : i + 7 ≤ L) (k : ∀ (σ' ρ' : ZS) (T' : TS), cR c σ' T' → rR x ρ' T' → tI T' → LV b L xs 1684 [some (Ar (some b)), some (Ar (some c)), some (Ar (some x)), some (Ai (nI i))] [] σ' ρ' kc ks) : LV b L xs 724 [some (Ar (some b)), some (Ar (some c)), some (Ar (some x)), some (Ai (nI i))] [] σ ρ (kc + 8) (ks + 200) := by
  refine LV_aload_n (n := 725) dL_law_724 rfl rfl rfl ?_
  refine LV_aload_n (n := 726) dL_law_725 rfl rfl rfl ?_
  refine LV_iload_n (n := 727) dL_law_726 rfl rfl rfl ?_
  refine LV_iconst (v := nI 1) (n := 728) dL_law_727 rfl rfl ?_
  refine LV_iaddN (n := 729) dL_law_728 rfl ?_
  refine LV_sld (j := i + 1) (n := 730) dL_law_729 rfl (by omega) hL ?_
  refine LV_aload_n (n := 731) dL_law_730 rfl rfl rfl ?_
  refine LV_iload_n (n := 732) dL_law_731 rfl rfl rfl ?_
  refine LV_iconst (v := nI 2) (n := 733) dL_law_732 rfl rfl ?_
  refine LV_iaddN (n := 734) dL_law_733 rfl ?_
  refine LV_sld (j := i + 2) (n := 735) dL_law_734 rfl (by omega) hL ?_
  refine LV_run (kc' := kc) (ks' := ks) (ZRun_V (M := ML) (M' := M_X11_event) (As := [Ai (xs (i + 1)), Ai (xs (i + 2))]) (rest := []) (n := 2) (q_event hR hI (xs (i + 1)) (xs (i + 2))) cb_X11_event wd_3_34 wd_3_35 wd_3_36 (cR_k hR) (by decide) rfl rfl dL_law_735 (Nat.le_of_ble_eq_true rfl) (Nat.le_of_ble_eq_true rfl)) (Nat.add_le_add_left (Nat.le_of_ble_eq_true rfl) _) (Nat.add_le_add_left (Nat.le_of_ble_eq_true rfl) _) rfl (fun r9 σ9 hp9 hz9 => ?_)
  obtain ⟨rfl, hR9⟩ := hp9
  refine LV_aload_n (n := 739) dL_law_738 rfl rfl rfl ?_
  refine LV_aload_n (n := 740) dL_law_739 rfl rfl rfl ?_
  refine LV_iload_n (n := 741) dL_law_740 rfl rfl rfl ?_
  refine LV_iconst (v := nI 1) (n := 742) dL_law_741 rfl rfl ?_
  refine LV_iaddN (n := 743) dL_law_742 rfl ?_
  refine LV_sld (j := i + 1) (n := 744) dL_law_743 rfl (by omega) hL ?_
  refine LV_aload_n (n := 745) dL_law_744 rfl rfl rfl ?_
  refine LV_iload_n (n := 746) dL_law_745 rfl rfl rfl ?_
  refine LV_iconst (v := nI 2) (n := 747) dL_law_746 rfl rfl ?_
  refine LV_iaddN (n := 748) dL_law_747 rfl ?_
  refine LV_sld (j := i + 2) (n := 749) dL_law_748 rfl (by omega) hL ?_
  refine LV_swap ?_
  refine LV_run (kc' := kc) (ks' := ks) (ZRun_V (M := ML) (M' := M_X12_event) (As := [Ai (xs (i + 1)), Ai (xs (i + 2))]) (rest := [Ai _]) (n := 2) (c_event (rR_zU hM _) hI (xs (i + 1)) (xs (i + 2))) cb_X12_event wd_6_6 wd_6_7 wd_6_8 (rf_sh (rR_zU hM (zn σ9))).1 (by decide) rfl rfl dL_law_749 (Nat.le_of_ble_eq_true rfl) (Nat.le_of_ble_eq_true rfl)) (Nat.le_refl _) (Nat.le_refl _) rfl (fun r8 ρ8 hp8 hz8 => ?_)
  obtain ⟨rfl, hM8⟩ := hp8
  refine LV_swap ?_
  refine LV_icmp_eq (tgt := 1684) (n := 755) dL_law_752 (by decide) rfl (fun _ => ?_) (fun h9 => absurd rfl h9)
  exact k _ _ _ (cR_zU hR9 hz8) hM8 (ki_event hI _ _)
set_option maxHeartbeats 1000000 in
theorem lw_case_15 {b L : Nat} {xs : Nat → Int32} (hL : L ≤ 3584) {c x i kc ks : Nat} {σ ρ : ZS} {T : TS} (hR : cR c σ T) (hM : rR x ρ T) (hI : tI T) (hi : i + 7 ≤ L) (k : ∀ (σ' ρ' : ZS) (T' : TS), cR c σ' T' → rR x ρ' T' → tI T' → LV b L xs 1684 [some (Ar (some b)), some (Ar (some c)), some (Ar (some x)), some (Ai (nI i))] [] σ' ρ' kc ks) : LV b L xs 757 [some (Ar (some b)), some (Ar (some c)), some (Ar (some x)), some (Ai (nI i))] [] σ ρ (kc + 8) (ks + 200) := by
  refine LV_aload_n (n := 758) dL_law_757 rfl rfl rfl ?_
  refine LV_aload_n (n := 759) dL_law_758 rfl rfl rfl ?_
  refine LV_iload_n (n := 760) dL_law_759 rfl rfl rfl ?_
  refine LV_iconst (v := nI 1) (n := 761) dL_law_760 rfl rfl ?_
  refine LV_iaddN (n := 762) dL_law_761 rfl ?_
  refine LV_sld (j := i + 1) (n := 763) dL_law_762 rfl (by omega) hL ?_
  refine LV_aload_n (n := 764) dL_law_763 rfl rfl rfl ?_
  refine LV_iload_n (n := 765) dL_law_764 rfl rfl rfl ?_
  refine LV_iconst (v := nI 2) (n := 766) dL_law_765 rfl rfl ?_
  refine LV_iaddN (n := 767) dL_law_766 rfl ?_
  refine LV_sld (j := i + 2) (n := 768) dL_law_767 rfl (by omega) hL ?_
  refine LV_aload_n (n := 769) dL_law_768 rfl rfl rfl ?_
  refine LV_iload_n (n := 770) dL_law_769 rfl rfl rfl ?_
  refine LV_iconst (v := nI 3) (n := 771) dL_law_770 rfl rfl ?_
  refine LV_iaddN (n := 772) dL_law_771 rfl ?_
  refine LV_sld (j := i + 3) (n := 773) dL_law_772 rfl (by omega) hL ?_
  refine LV_run (kc' := kc) (ks' := ks) (ZRun_V (M := ML) (M' := M_X11_asks) (As := [Ai (xs (i + 1)), Ai (xs (i + 2)), Ai (xs (i + 3))]) (rest := []) (n := 3) (q_asks hR hI (xs (i + 1)) (xs (i + 2)) (xs (i + 3))) cb_X11_asks wd_3_39 wd_3_40 wd_3_41 (cR_k hR) (by decide) rfl rfl dL_law_773 (Nat.le_of_ble_eq_true rfl) (Nat.le_of_ble_eq_true rfl)) (Nat.add_le_add_left (Nat.le_of_ble_eq_true rfl) _) (Nat.add_le_add_left (Nat.le_of_ble_eq_true rfl) _) rfl (fun r9 σ9 hp9 hz9 => ?_)
  obtain ⟨rfl, hR9⟩ := hp9
  refine LV_aload_n (n := 777) dL_law_776 rfl rfl rfl ?_
  refine LV_aload_n (n := 778) dL_law_777 rfl rfl rfl ?_
  refine LV_iload_n (n := 779) dL_law_778 rfl rfl rfl ?_
  refine LV_iconst (v := nI 1) (n := 780) dL_law_779 rfl rfl ?_
  refine LV_iaddN (n := 781) dL_law_780 rfl ?_
  refine LV_sld (j := i + 1) (n := 782) dL_law_781 rfl (by omega) hL ?_
  refine LV_aload_n (n := 783) dL_law_782 rfl rfl rfl ?_
  refine LV_iload_n (n := 784) dL_law_783 rfl rfl rfl ?_
  refine LV_iconst (v := nI 2) (n := 785) dL_law_784 rfl rfl ?_
  refine LV_iaddN (n := 786) dL_law_785 rfl ?_
  refine LV_sld (j := i + 2) (n := 787) dL_law_786 rfl (by omega) hL ?_
  refine LV_aload_n (n := 788) dL_law_787 rfl rfl rfl ?_
  refine LV_iload_n (n := 789) dL_law_788 rfl rfl rfl ?_
  refine LV_iconst (v := nI 3) (n := 790) dL_law_789 rfl rfl ?_
  refine LV_iaddN (n := 791) dL_law_790 rfl ?_
  refine LV_sld (j := i + 3) (n := 792) dL_law_791 rfl (by omega) hL ?_
  refine LV_swap ?_
  refine LV_run (kc' := kc) (ks' := ks) (ZRun_V (M := ML) (M' := M_X12_asks) (As := [Ai (xs (i + 1)), Ai (xs (i + 2)), Ai (xs (i + 3))]) (rest := [Ai _]) (n := 3) (c_asks (rR_zU hM _) hI (xs (i + 1)) (xs (i + 2)) (xs (i + 3))) cb_X12_asks wd_5_98 wd_5_99 wd_5_100 (rf_sh (rR_zU hM (zn σ9))).1 (by decide) rfl rfl dL_law_792 (Nat.le_of_ble_eq_true rfl) (Nat.le_of_ble_eq_true rfl)) (Nat.le_refl _) (Nat.le_refl _) rfl (fun r8 ρ8 hp8 hz8 => ?_)
  obtain ⟨rfl, hM8⟩ := hp8
  refine LV_swap ?_
  refine LV_icmp_eq (tgt := 1684) (n := 798) dL_law_795 (by decide) rfl (fun _ => ?_) (fun h9 => absurd rfl h9)
  exact k _ _ _ (cR_zU hR9 hz8) hM8 (ki_asks hI _ _ _)
set_option maxHeartbeats 1000000 in
theorem lw_case_16 {b L : Nat} {xs : Nat → Int32} (hL : L ≤ 3584) {c x i kc ks : Nat} {σ ρ : ZS} {T : TS} (hR : cR c σ T) (hM : rR x ρ T) (hI : tI T) (hi : i + 7 ≤ L) (k : ∀ (σ' ρ' : ZS) (T' : TS), cR c σ' T' → rR x ρ' T' → tI T' → LV b L xs 1684 [some (Ar (some b)), some (Ar (some c)), some (Ar (some x)), some (Ai (nI i))] [] σ' ρ' kc ks) : LV b L xs 800 [some (Ar (some b)), some (Ar (some c)), some (Ar (some x)), some (Ai (nI i))] [] σ ρ (kc + 8) (ks + 200) := by
  refine LV_aload_n (n := 801) dL_law_800 rfl rfl rfl ?_
  refine LV_aload_n (n := 802) dL_law_801 rfl rfl rfl ?_
  refine LV_iload_n (n := 803) dL_law_802 rfl rfl rfl ?_
  refine LV_iconst (v := nI 1) (n := 804) dL_law_803 rfl rfl ?_
  refine LV_iaddN (n := 805) dL_law_804 rfl ?_
  refine LV_sld (j := i + 1) (n := 806) dL_law_805 rfl (by omega) hL ?_
  refine LV_aload_n (n := 807) dL_law_806 rfl rfl rfl ?_
  refine LV_iload_n (n := 808) dL_law_807 rfl rfl rfl ?_
  refine LV_iconst (v := nI 2) (n := 809) dL_law_808 rfl rfl ?_
  refine LV_iaddN (n := 810) dL_law_809 rfl ?_
  refine LV_sld (j := i + 2) (n := 811) dL_law_810 rfl (by omega) hL ?_
  refine LV_aload_n (n := 812) dL_law_811 rfl rfl rfl ?_
  refine LV_iload_n (n := 813) dL_law_812 rfl rfl rfl ?_
  refine LV_iconst (v := nI 3) (n := 814) dL_law_813 rfl rfl ?_
  refine LV_iaddN (n := 815) dL_law_814 rfl ?_
  refine LV_sld (j := i + 3) (n := 816) dL_law_815 rfl (by omega) hL ?_
  refine LV_aload_n (n := 817) dL_law_816 rfl rfl rfl ?_
  refine LV_iload_n (n := 818) dL_law_817 rfl rfl rfl ?_
  refine LV_iconst (v := nI 4) (n := 819) dL_law_818 rfl rfl ?_
  refine LV_iaddN (n := 820) dL_law_819 rfl ?_
  refine LV_sld (j := i + 4) (n := 821) dL_law_820 rfl (by omega) hL ?_
  refine LV_aload_n (n := 822) dL_law_821 rfl rfl rfl ?_
  refine LV_iload_n (n := 823) dL_law_822 rfl rfl rfl ?_
  refine LV_iconst (v := nI 5) (n := 824) dL_law_823 rfl rfl ?_
  refine LV_iaddN (n := 825) dL_law_824 rfl ?_
  refine LV_sld (j := i + 5) (n := 826) dL_law_825 rfl (by omega) hL ?_
  refine LV_aload_n (n := 827) dL_law_826 rfl rfl rfl ?_
  refine LV_iload_n (n := 828) dL_law_827 rfl rfl rfl ?_
  refine LV_bipush (v := nI 6) (n := 830) dL_law_828 rfl rfl ?_
  refine LV_iaddN (n := 831) dL_law_830 rfl ?_
  refine LV_sld (j := i + 6) (n := 832) dL_law_831 rfl (by omega) hL ?_
  refine LV_run (kc' := kc) (ks' := ks) (ZRun_V (M := ML) (M' := M_X11_tuplet) (As := [Ai (xs (i + 1)), Ai (xs (i + 2)), Ai (xs (i + 3)), Ai (xs (i + 4)), Ai (xs (i + 5)), Ai (xs (i + 6))]) (rest := []) (n := 6) (q_tuplet hR hI (xs (i + 1)) (xs (i + 2)) (xs (i + 3)) (xs (i + 4)) (xs (i + 5)) (xs (i + 6))) cb_X11_tuplet wd_3_74 wd_3_75 wd_3_76 (cR_k hR) (by decide) rfl rfl dL_law_832 (Nat.le_of_ble_eq_true rfl) (Nat.le_of_ble_eq_true rfl)) (Nat.add_le_add_left (Nat.le_of_ble_eq_true rfl) _) (Nat.add_le_add_left (Nat.le_of_ble_eq_true rfl) _) rfl (fun r9 σ9 hp9 hz9 => ?_)
  obtain ⟨rfl, hR9⟩ := hp9
  refine LV_aload_n (n := 836) dL_law_835 rfl rfl rfl ?_
  refine LV_aload_n (n := 837) dL_law_836 rfl rfl rfl ?_
  refine LV_iload_n (n := 838) dL_law_837 rfl rfl rfl ?_
  refine LV_iconst (v := nI 1) (n := 839) dL_law_838 rfl rfl ?_
  refine LV_iaddN (n := 840) dL_law_839 rfl ?_
  refine LV_sld (j := i + 1) (n := 841) dL_law_840 rfl (by omega) hL ?_
  refine LV_aload_n (n := 842) dL_law_841 rfl rfl rfl ?_
  refine LV_iload_n (n := 843) dL_law_842 rfl rfl rfl ?_
  refine LV_iconst (v := nI 2) (n := 844) dL_law_843 rfl rfl ?_
  refine LV_iaddN (n := 845) dL_law_844 rfl ?_
  refine LV_sld (j := i + 2) (n := 846) dL_law_845 rfl (by omega) hL ?_
  refine LV_aload_n (n := 847) dL_law_846 rfl rfl rfl ?_
  refine LV_iload_n (n := 848) dL_law_847 rfl rfl rfl ?_
  refine LV_iconst (v := nI 3) (n := 849) dL_law_848 rfl rfl ?_
  refine LV_iaddN (n := 850) dL_law_849 rfl ?_
  refine LV_sld (j := i + 3) (n := 851) dL_law_850 rfl (by omega) hL ?_
  refine LV_aload_n (n := 852) dL_law_851 rfl rfl rfl ?_
  refine LV_iload_n (n := 853) dL_law_852 rfl rfl rfl ?_
  refine LV_iconst (v := nI 4) (n := 854) dL_law_853 rfl rfl ?_
  refine LV_iaddN (n := 855) dL_law_854 rfl ?_
  refine LV_sld (j := i + 4) (n := 856) dL_law_855 rfl (by omega) hL ?_
  refine LV_aload_n (n := 857) dL_law_856 rfl rfl rfl ?_
  refine LV_iload_n (n := 858) dL_law_857 rfl rfl rfl ?_
  refine LV_iconst (v := nI 5) (n := 859) dL_law_858 rfl rfl ?_
  refine LV_iaddN (n := 860) dL_law_859 rfl ?_
  refine LV_sld (j := i + 5) (n := 861) dL_law_860 rfl (by omega) hL ?_
  refine LV_aload_n (n := 862) dL_law_861 rfl rfl rfl ?_
  refine LV_iload_n (n := 863) dL_law_862 rfl rfl rfl ?_
  refine LV_bipush (v := nI 6) (n := 865) dL_law_863 rfl rfl ?_
  refine LV_iaddN (n := 866) dL_law_865 rfl ?_
  refine LV_sld (j := i + 6) (n := 867) dL_law_866 rfl (by omega) hL ?_
  refine LV_swap ?_
  refine LV_run (kc' := kc) (ks' := ks) (ZRun_V (M := ML) (M' := M_X12_tuplet) (As := [Ai (xs (i + 1)), Ai (xs (i + 2)), Ai (xs (i + 3)), Ai (xs (i + 4)), Ai (xs (i + 5)), Ai (xs (i + 6))]) (rest := [Ai _]) (n := 6) (c_tuplet (rR_zU hM _) hI (xs (i + 1)) (xs (i + 2)) (xs (i + 3)) (xs (i + 4)) (xs (i + 5)) (xs (i + 6))) cb_X12_tuplet wd_6_10 wd_6_11 wd_6_12 (rf_sh (rR_zU hM (zn σ9))).1 (by decide) rfl rfl dL_law_867 (Nat.le_of_ble_eq_true rfl) (Nat.le_of_ble_eq_true rfl)) (Nat.le_refl _) (Nat.le_refl _) rfl (fun r8 ρ8 hp8 hz8 => ?_)
  obtain ⟨rfl, hM8⟩ := hp8
  refine LV_swap ?_
  refine LV_icmp_eq (tgt := 1684) (n := 873) dL_law_870 (by decide) rfl (fun _ => ?_) (fun h9 => absurd rfl h9)
  exact k _ _ _ (cR_zU hR9 hz8) hM8 (ki_tuplet hI _ _ _ _ _ _)
set_option maxHeartbeats 1000000 in
theorem lw_case_17 {b L : Nat} {xs : Nat → Int32} (hL : L ≤ 3584) {c x i kc ks : Nat} {σ ρ : ZS} {T : TS} (hR : cR c σ T) (hM : rR x ρ T) (hI : tI T) (hi : i + 7 ≤ L) (k : ∀ (σ' ρ' : ZS) (T' : TS), cR c σ' T' → rR x ρ' T' → tI T' → LV b L xs 1684 [some (Ar (some b)), some (Ar (some c)), some (Ar (some x)), some (Ai (nI i))] [] σ' ρ' kc ks) : LV b L xs 875 [some (Ar (some b)), some (Ar (some c)), some (Ar (some x)), some (Ai (nI i))] [] σ ρ (kc + 8) (ks + 200) := by
  refine LV_aload_n (n := 876) dL_law_875 rfl rfl rfl ?_
  refine LV_aload_n (n := 877) dL_law_876 rfl rfl rfl ?_
  refine LV_iload_n (n := 878) dL_law_877 rfl rfl rfl ?_
  refine LV_iconst (v := nI 1) (n := 879) dL_law_878 rfl rfl ?_
  refine LV_iaddN (n := 880) dL_law_879 rfl ?_
  refine LV_sld (j := i + 1) (n := 881) dL_law_880 rfl (by omega) hL ?_
  refine LV_run (kc' := kc) (ks' := ks) (ZRun_V (M := ML) (M' := M_X11_untuplet) (As := [Ai (xs (i + 1))]) (rest := []) (n := 1) (q_untuplet hR hI (xs (i + 1))) cb_X11_untuplet wd_3_122 wd_3_123 wd_3_124 (cR_k hR) (by decide) rfl rfl dL_law_881 (Nat.le_of_ble_eq_true rfl) (Nat.le_of_ble_eq_true rfl)) (Nat.add_le_add_left (Nat.le_of_ble_eq_true rfl) _) (Nat.add_le_add_left (Nat.le_of_ble_eq_true rfl) _) rfl (fun r9 σ9 hp9 hz9 => ?_)
  obtain ⟨rfl, hR9⟩ := hp9
  refine LV_aload_n (n := 885) dL_law_884 rfl rfl rfl ?_
  refine LV_aload_n (n := 886) dL_law_885 rfl rfl rfl ?_
  refine LV_iload_n (n := 887) dL_law_886 rfl rfl rfl ?_
  refine LV_iconst (v := nI 1) (n := 888) dL_law_887 rfl rfl ?_
  refine LV_iaddN (n := 889) dL_law_888 rfl ?_
  refine LV_sld (j := i + 1) (n := 890) dL_law_889 rfl (by omega) hL ?_
  refine LV_swap ?_
  refine LV_run (kc' := kc) (ks' := ks) (ZRun_V (M := ML) (M' := M_X12_untuplet) (As := [Ai (xs (i + 1))]) (rest := [Ai _]) (n := 1) (c_untuplet (rR_zU hM _) hI (xs (i + 1))) cb_X12_untuplet wd_6_14 wd_6_15 wd_6_16 (rf_sh (rR_zU hM (zn σ9))).1 (by decide) rfl rfl dL_law_890 (Nat.le_of_ble_eq_true rfl) (Nat.le_of_ble_eq_true rfl)) (Nat.le_refl _) (Nat.le_refl _) rfl (fun r8 ρ8 hp8 hz8 => ?_)
  obtain ⟨rfl, hM8⟩ := hp8
  refine LV_swap ?_
  refine LV_icmp_eq (tgt := 1684) (n := 896) dL_law_893 (by decide) rfl (fun _ => ?_) (fun h9 => absurd rfl h9)
  exact k _ _ _ (cR_zU hR9 hz8) hM8 (ki_untuplet hI _)
set_option maxHeartbeats 1000000 in
theorem lw_case_18 {b L : Nat} {xs : Nat → Int32} (hL : L ≤ 3584) {c x i kc ks : Nat} {σ ρ : ZS} {T : TS} (hR : cR c σ T) (hM : rR x ρ T) (hI : tI T) (hi : i + 7 ≤ L) (k : ∀ (σ' ρ' : ZS) (T' : TS), cR c σ' T' → rR x ρ' T' → tI T' → LV b L xs 1684 [some (Ar (some b)), some (Ar (some c)), some (Ar (some x)), some (Ai (nI i))] [] σ' ρ' kc ks) : LV b L xs 898 [some (Ar (some b)), some (Ar (some c)), some (Ar (some x)), some (Ai (nI i))] [] σ ρ (kc + 8) (ks + 200) := by
  refine LV_aload_n (n := 899) dL_law_898 rfl rfl rfl ?_
  refine LV_aload_n (n := 900) dL_law_899 rfl rfl rfl ?_
  refine LV_iload_n (n := 901) dL_law_900 rfl rfl rfl ?_
  refine LV_iconst (v := nI 1) (n := 902) dL_law_901 rfl rfl ?_
  refine LV_iaddN (n := 903) dL_law_902 rfl ?_
  refine LV_sld (j := i + 1) (n := 904) dL_law_903 rfl (by omega) hL ?_
  refine LV_aload_n (n := 905) dL_law_904 rfl rfl rfl ?_
  refine LV_iload_n (n := 906) dL_law_905 rfl rfl rfl ?_
  refine LV_iconst (v := nI 2) (n := 907) dL_law_906 rfl rfl ?_
  refine LV_iaddN (n := 908) dL_law_907 rfl ?_
  refine LV_sld (j := i + 2) (n := 909) dL_law_908 rfl (by omega) hL ?_
  refine LV_run (kc' := kc) (ks' := ks) (ZRun_V (M := ML) (M' := M_X11_tupletAt) (As := [Ai (xs (i + 1)), Ai (xs (i + 2))]) (rest := []) (n := 2) (q_tupletAt hR hI (xs (i + 1)) (xs (i + 2))) cb_X11_tupletAt wd_3_130 wd_3_131 wd_3_132 (cR_k hR) (by decide) rfl rfl dL_law_909 (Nat.le_of_ble_eq_true rfl) (Nat.le_of_ble_eq_true rfl)) (Nat.add_le_add_left (Nat.le_of_ble_eq_true rfl) _) (Nat.add_le_add_left (Nat.le_of_ble_eq_true rfl) _) rfl (fun r9 σ9 hp9 hz9 => ?_)
  obtain ⟨rfl, hR9⟩ := hp9
  refine LV_aload_n (n := 913) dL_law_912 rfl rfl rfl ?_
  refine LV_aload_n (n := 914) dL_law_913 rfl rfl rfl ?_
  refine LV_iload_n (n := 915) dL_law_914 rfl rfl rfl ?_
  refine LV_iconst (v := nI 1) (n := 916) dL_law_915 rfl rfl ?_
  refine LV_iaddN (n := 917) dL_law_916 rfl ?_
  refine LV_sld (j := i + 1) (n := 918) dL_law_917 rfl (by omega) hL ?_
  refine LV_aload_n (n := 919) dL_law_918 rfl rfl rfl ?_
  refine LV_iload_n (n := 920) dL_law_919 rfl rfl rfl ?_
  refine LV_iconst (v := nI 2) (n := 921) dL_law_920 rfl rfl ?_
  refine LV_iaddN (n := 922) dL_law_921 rfl ?_
  refine LV_sld (j := i + 2) (n := 923) dL_law_922 rfl (by omega) hL ?_
  refine LV_swap ?_
  refine LV_run (kc' := kc) (ks' := ks) (ZRun_V (M := ML) (M' := M_X12_tupletAt) (As := [Ai (xs (i + 1)), Ai (xs (i + 2))]) (rest := [Ai _]) (n := 2) (c_tupletAt (rR_zU hM _) hI (xs (i + 1)) (xs (i + 2))) cb_X12_tupletAt wd_6_26 wd_6_27 wd_6_28 (rf_sh (rR_zU hM (zn σ9))).1 (by decide) rfl rfl dL_law_923 (Nat.le_of_ble_eq_true rfl) (Nat.le_of_ble_eq_true rfl)) (Nat.le_refl _) (Nat.le_refl _) rfl (fun r8 ρ8 hp8 hz8 => ?_)
  obtain ⟨rfl, hM8⟩ := hp8
  refine LV_swap ?_
  refine LV_icmp_eq (tgt := 1684) (n := 929) dL_law_926 (by decide) rfl (fun _ => ?_) (fun h9 => absurd rfl h9)
  exact k _ _ _ (cR_zU hR9 hz8) hM8 (ki_tupletAt hI _ _)
set_option maxHeartbeats 1000000 in
theorem lw_case_19 {b L : Nat} {xs : Nat → Int32} (hL : L ≤ 3584) {c x i kc ks : Nat} {σ ρ : ZS} {T : TS} (hR : cR c σ T) (hM : rR x ρ T) (hI : tI T) (hi : i + 7 ≤ L) (k : ∀ (σ' ρ' : ZS) (T' : TS), cR c σ' T' → rR x ρ' T' → tI T' → LV b L xs 1684 [some (Ar (some b)), some (Ar (some c)), some (Ar (some x)), some (Ai (nI i))] [] σ' ρ' kc ks) : LV b L xs 931 [some (Ar (some b)), some (Ar (some c)), some (Ar (some x)), some (Ai (nI i))] [] σ ρ (kc + 8) (ks + 200) := by
  refine LV_aload_n (n := 932) dL_law_931 rfl rfl rfl ?_
  refine LV_aload_n (n := 933) dL_law_932 rfl rfl rfl ?_
  refine LV_iload_n (n := 934) dL_law_933 rfl rfl rfl ?_
  refine LV_iconst (v := nI 1) (n := 935) dL_law_934 rfl rfl ?_
  refine LV_iaddN (n := 936) dL_law_935 rfl ?_
  refine LV_sld (j := i + 1) (n := 937) dL_law_936 rfl (by omega) hL ?_
  refine LV_aload_n (n := 938) dL_law_937 rfl rfl rfl ?_
  refine LV_iload_n (n := 939) dL_law_938 rfl rfl rfl ?_
  refine LV_iconst (v := nI 2) (n := 940) dL_law_939 rfl rfl ?_
  refine LV_iaddN (n := 941) dL_law_940 rfl ?_
  refine LV_sld (j := i + 2) (n := 942) dL_law_941 rfl (by omega) hL ?_
  refine LV_aload_n (n := 943) dL_law_942 rfl rfl rfl ?_
  refine LV_iload_n (n := 944) dL_law_943 rfl rfl rfl ?_
  refine LV_iconst (v := nI 3) (n := 945) dL_law_944 rfl rfl ?_
  refine LV_iaddN (n := 946) dL_law_945 rfl ?_
  refine LV_sld (j := i + 3) (n := 947) dL_law_946 rfl (by omega) hL ?_
  refine LV_run (kc' := kc) (ks' := ks) (ZRun_V (M := ML) (M' := M_X11_line) (As := [Ai (xs (i + 1)), Ai (xs (i + 2)), Ai (xs (i + 3))]) (rest := []) (n := 3) (q_line hR hI (xs (i + 1)) (xs (i + 2)) (xs (i + 3))) cb_X11_line wd_3_142 wd_3_143 wd_3_144 (cR_k hR) (by decide) rfl rfl dL_law_947 (Nat.le_of_ble_eq_true rfl) (Nat.le_of_ble_eq_true rfl)) (Nat.add_le_add_left (Nat.le_of_ble_eq_true rfl) _) (Nat.add_le_add_left (Nat.le_of_ble_eq_true rfl) _) rfl (fun r9 σ9 hp9 hz9 => ?_)
  obtain ⟨rfl, hR9⟩ := hp9
  refine LV_aload_n (n := 951) dL_law_950 rfl rfl rfl ?_
  refine LV_aload_n (n := 952) dL_law_951 rfl rfl rfl ?_
  refine LV_iload_n (n := 953) dL_law_952 rfl rfl rfl ?_
  refine LV_iconst (v := nI 1) (n := 954) dL_law_953 rfl rfl ?_
  refine LV_iaddN (n := 955) dL_law_954 rfl ?_
  refine LV_sld (j := i + 1) (n := 956) dL_law_955 rfl (by omega) hL ?_
  refine LV_aload_n (n := 957) dL_law_956 rfl rfl rfl ?_
  refine LV_iload_n (n := 958) dL_law_957 rfl rfl rfl ?_
  refine LV_iconst (v := nI 2) (n := 959) dL_law_958 rfl rfl ?_
  refine LV_iaddN (n := 960) dL_law_959 rfl ?_
  refine LV_sld (j := i + 2) (n := 961) dL_law_960 rfl (by omega) hL ?_
  refine LV_aload_n (n := 962) dL_law_961 rfl rfl rfl ?_
  refine LV_iload_n (n := 963) dL_law_962 rfl rfl rfl ?_
  refine LV_iconst (v := nI 3) (n := 964) dL_law_963 rfl rfl ?_
  refine LV_iaddN (n := 965) dL_law_964 rfl ?_
  refine LV_sld (j := i + 3) (n := 966) dL_law_965 rfl (by omega) hL ?_
  refine LV_swap ?_
  refine LV_run (kc' := kc) (ks' := ks) (ZRun_V (M := ML) (M' := M_X12_line) (As := [Ai (xs (i + 1)), Ai (xs (i + 2)), Ai (xs (i + 3))]) (rest := [Ai _]) (n := 3) (c_line (rR_zU hM _) hI (xs (i + 1)) (xs (i + 2)) (xs (i + 3))) cb_X12_line wd_6_35 wd_6_36 wd_6_37 (rf_sh (rR_zU hM (zn σ9))).1 (by decide) rfl rfl dL_law_966 (Nat.le_of_ble_eq_true rfl) (Nat.le_of_ble_eq_true rfl)) (Nat.le_refl _) (Nat.le_refl _) rfl (fun r8 ρ8 hp8 hz8 => ?_)
  obtain ⟨rfl, hM8⟩ := hp8
  refine LV_swap ?_
  refine LV_icmp_eq (tgt := 1684) (n := 972) dL_law_969 (by decide) rfl (fun _ => ?_) (fun h9 => absurd rfl h9)
  exact k _ _ _ (cR_zU hR9 hz8) hM8 (ki_line hI _ _ _)
set_option maxHeartbeats 1000000 in
theorem lw_case_20 {b L : Nat} {xs : Nat → Int32} (hL : L ≤ 3584) {c x i kc ks : Nat} {σ ρ : ZS} {T : TS} (hR : cR c σ T) (hM : rR x ρ T) (hI : tI T) (hi : i + 7 ≤ L) (k : ∀ (σ' ρ' : ZS) (T' : TS), cR c σ' T' → rR x ρ' T' → tI T' → LV b L xs 1684 [some (Ar (some b)), some (Ar (some c)), some (Ar (some x)), some (Ai (nI i))] [] σ' ρ' kc ks) : LV b L xs 974 [some (Ar (some b)), some (Ar (some c)), some (Ar (some x)), some (Ai (nI i))] [] σ ρ (kc + 8) (ks + 200) := by
  refine LV_aload_n (n := 975) dL_law_974 rfl rfl rfl ?_
  refine LV_aload_n (n := 976) dL_law_975 rfl rfl rfl ?_
  refine LV_iload_n (n := 977) dL_law_976 rfl rfl rfl ?_
  refine LV_iconst (v := nI 1) (n := 978) dL_law_977 rfl rfl ?_
  refine LV_iaddN (n := 979) dL_law_978 rfl ?_
  refine LV_sld (j := i + 1) (n := 980) dL_law_979 rfl (by omega) hL ?_
  refine LV_aload_n (n := 981) dL_law_980 rfl rfl rfl ?_
  refine LV_iload_n (n := 982) dL_law_981 rfl rfl rfl ?_
  refine LV_iconst (v := nI 2) (n := 983) dL_law_982 rfl rfl ?_
  refine LV_iaddN (n := 984) dL_law_983 rfl ?_
  refine LV_sld (j := i + 2) (n := 985) dL_law_984 rfl (by omega) hL ?_
  refine LV_run (kc' := kc) (ks' := ks) (ZRun_V (M := ML) (M' := M_X11_end) (As := [Ai (xs (i + 1)), Ai (xs (i + 2))]) (rest := []) (n := 2) (q_end hR hI (xs (i + 1)) (xs (i + 2))) cb_X11_end wd_3_168 wd_3_169 wd_3_170 (cR_k hR) (by decide) rfl rfl dL_law_985 (Nat.le_of_ble_eq_true rfl) (Nat.le_of_ble_eq_true rfl)) (Nat.add_le_add_left (Nat.le_of_ble_eq_true rfl) _) (Nat.add_le_add_left (Nat.le_of_ble_eq_true rfl) _) rfl (fun r9 σ9 hp9 hz9 => ?_)
  obtain ⟨rfl, hR9⟩ := hp9
  refine LV_aload_n (n := 989) dL_law_988 rfl rfl rfl ?_
  refine LV_aload_n (n := 990) dL_law_989 rfl rfl rfl ?_
  refine LV_iload_n (n := 991) dL_law_990 rfl rfl rfl ?_
  refine LV_iconst (v := nI 1) (n := 992) dL_law_991 rfl rfl ?_
  refine LV_iaddN (n := 993) dL_law_992 rfl ?_
  refine LV_sld (j := i + 1) (n := 994) dL_law_993 rfl (by omega) hL ?_
  refine LV_aload_n (n := 995) dL_law_994 rfl rfl rfl ?_
  refine LV_iload_n (n := 996) dL_law_995 rfl rfl rfl ?_
  refine LV_iconst (v := nI 2) (n := 997) dL_law_996 rfl rfl ?_
  refine LV_iaddN (n := 998) dL_law_997 rfl ?_
  refine LV_sld (j := i + 2) (n := 999) dL_law_998 rfl (by omega) hL ?_
  refine LV_swap ?_
  refine LV_run (kc' := kc) (ks' := ks) (ZRun_V (M := ML) (M' := M_X12_end) (As := [Ai (xs (i + 1)), Ai (xs (i + 2))]) (rest := [Ai _]) (n := 2) (c_end (rR_zU hM _) hI (xs (i + 1)) (xs (i + 2))) cb_X12_end wd_6_39 wd_6_40 wd_6_41 (rf_sh (rR_zU hM (zn σ9))).1 (by decide) rfl rfl dL_law_999 (Nat.le_of_ble_eq_true rfl) (Nat.le_of_ble_eq_true rfl)) (Nat.le_refl _) (Nat.le_refl _) rfl (fun r8 ρ8 hp8 hz8 => ?_)
  obtain ⟨rfl, hM8⟩ := hp8
  refine LV_swap ?_
  refine LV_icmp_eq (tgt := 1684) (n := 1005) dL_law_1002 (by decide) rfl (fun _ => ?_) (fun h9 => absurd rfl h9)
  exact k _ _ _ (cR_zU hR9 hz8) hM8 (ki_end hI _ _)

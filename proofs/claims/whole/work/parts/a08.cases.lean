/-! the law's cases -/
def mL : MD := (yL_law, cL_law, 4, some .boolean)
/-- the law answers 1 -/
def QW : Option AV → Shp → Mem → Prop := fun r _ _ => r = some (vi 1)
/-- the loop goes on -/
def NX (Γ : GX) (zi : Int) : Prop := ∀ L B ch T F I S N m, IC L B ch T F I S N m → IR L B ch T F I S N m → R Γ mL room_1 113 5922 QW 113 5922 1680 [some (vr 2000000), some (vr 0), some (vr 96), some (vi zi)] [] SH m
section
variable {Γ : GX} {m : Mem} {B : Bk} {L : Ld} {ch : Cs} {T : Tp} {F N : Int} {I : Nat → Im} {S : Nat → Sht}
theorem lw_feed (hΓ : GOk Γ) (i : Nat) (zi : Int) (hzi : zi = (i : Int)) (hlen : i + 7 ≤ gN Γ) (hN3 : gN Γ ≤ 3584) (hC : IC L B ch T F I S N m) (hR : IR L B ch T F I S N m) (nx : NX Γ zi) : R Γ mL room_1 113 5922 QW 113 5922 212 [some (vr 2000000), some (vr 0), some (vr 96), some (vi zi)] [] SH m := by
  refine R_aload_n 213 rfl dL_law_212 rfl ?_
  refine R_aload_n 214 rfl dL_law_213 rfl ?_
  refine R_iload_n 215 rfl dL_law_214 rfl ?_
  refine R_iconst 216 rfl dL_law_215 ?_
  refine R_iadd 217 rfl dL_law_216 ?_
  refine R_sld (i + 1) 218 rfl dL_law_217 (by omega) (by omega) hN3 ?_
  refine R_i2l 219 rfl dL_law_218 (sc_rg _ _) ?_
  refine R_bipush 221 rfl dL_law_219 (by decide) ?_
  refine R_lshl 222 rfl dL_law_221 (by omega) (by omega) ?_
  refine R_topL (b := sc Γ (i + 1) * 4294967296) (by first | rfl | decide | simp) ?_
  refine R_aload_n 223 rfl dL_law_222 rfl ?_
  refine R_iload_n 224 rfl dL_law_223 rfl ?_
  refine R_iconst 225 rfl dL_law_224 ?_
  refine R_iadd 226 rfl dL_law_225 ?_
  refine R_sld (i + 2) 227 rfl dL_law_226 (by omega) (by omega) hN3 ?_
  refine R_i2l 228 rfl dL_law_227 (sc_rg _ _) ?_
  refine R_ldc2 (4294967295) 231 rfl dL_law_228 kl_L_13 (by decide) ?_
  refine R_landL 232 rfl dL_law_231 ?_
  refine R_lorJ 233 rfl dL_law_232 (by omega) (by omega) ?_
  refine R_callV_I (M' := mX10_feed) 236 rfl dL_law_233 ml_L_15 kmX10_feed im_X10_feed se_X10_feed rfl ⟨by decide, rfl⟩ (x_feed _ hC (fd_rg _ _ _)) rfl rfl ⟨Nat.le_of_ble_eq_true rfl, Nat.le_of_ble_eq_true rfl⟩ (Nat.le_of_ble_eq_true rfl) ⟨Nat.le_of_ble_eq_true rfl, Nat.le_of_ble_eq_true rfl⟩ ?_
  rintro z233 m233 h233
  obtain ⟨e1, f1, c1⟩ := h233
  have r1 := hR.h f1 c1
  refine R_aload_n 237 rfl dL_law_236 rfl ?_
  refine R_aload_n 238 rfl dL_law_237 rfl ?_
  refine R_iload_n 239 rfl dL_law_238 rfl ?_
  refine R_iconst 240 rfl dL_law_239 ?_
  refine R_iadd 241 rfl dL_law_240 ?_
  refine R_sld (i + 1) 242 rfl dL_law_241 (by omega) (by omega) hN3 ?_
  refine R_i2l 243 rfl dL_law_242 (sc_rg _ _) ?_
  refine R_bipush 245 rfl dL_law_243 (by decide) ?_
  refine R_lshl 246 rfl dL_law_245 (by omega) (by omega) ?_
  refine R_topL (b := sc Γ (i + 1) * 4294967296) (by first | rfl | decide | simp) ?_
  refine R_aload_n 247 rfl dL_law_246 rfl ?_
  refine R_iload_n 248 rfl dL_law_247 rfl ?_
  refine R_iconst 249 rfl dL_law_248 ?_
  refine R_iadd 250 rfl dL_law_249 ?_
  refine R_sld (i + 2) 251 rfl dL_law_250 (by omega) (by omega) hN3 ?_
  refine R_i2l 252 rfl dL_law_251 (sc_rg _ _) ?_
  refine R_ldc2 (4294967295) 255 rfl dL_law_252 kl_L_13 (by decide) ?_
  refine R_landL 256 rfl dL_law_255 ?_
  refine R_lorJ 257 rfl dL_law_256 (by omega) (by omega) ?_
  refine R_callV_I (M' := mX11_feed) 260 rfl dL_law_257 ml_L_19 kmX11_feed im_X11_feed se_X11_feed rfl ⟨by decide, rfl⟩ (y_feed _ r1 (fd_rg _ _ _)) rfl rfl ⟨Nat.le_of_ble_eq_true rfl, Nat.le_of_ble_eq_true rfl⟩ (Nat.le_of_ble_eq_true rfl) ⟨Nat.le_of_ble_eq_true rfl, Nat.le_of_ble_eq_true rfl⟩ ?_
  rintro z257 m257 h257
  obtain ⟨e2, f2, r2⟩ := h257
  have c2 := c1.l f2
  refine R_icmp_same 1680 rfl dL_law_260 (e1.trans e2.symm) ?_
  exact nx _ _ _ _ _ _ _ _ _ c2 r2
theorem lw_end (hΓ : GOk Γ) (i : Nat) (zi : Int) (hzi : zi = (i : Int)) (hlen : i + 7 ≤ gN Γ) (hN3 : gN Γ ≤ 3584) (hC : IC L B ch T F I S N m) (hR : IR L B ch T F I S N m) (nx : NX Γ zi) : R Γ mL room_1 113 5922 QW 113 5922 265 [some (vr 2000000), some (vr 0), some (vr 96), some (vi zi)] [] SH m := by
  refine R_aload_n 266 rfl dL_law_265 rfl ?_
  refine R_aload_n 267 rfl dL_law_266 rfl ?_
  refine R_iload_n 268 rfl dL_law_267 rfl ?_
  refine R_iconst 269 rfl dL_law_268 ?_
  refine R_iadd 270 rfl dL_law_269 ?_
  refine R_sld (i + 1) 271 rfl dL_law_270 (by omega) (by omega) hN3 ?_
  refine R_callV_I (M' := mX10_end) 274 rfl dL_law_271 ml_L_20 kmX10_end im_X10_end se_X10_end rfl ⟨by decide, rfl⟩ (x_end _ hC (sc_rg _ _)) rfl rfl ⟨Nat.le_of_ble_eq_true rfl, Nat.le_of_ble_eq_true rfl⟩ (Nat.le_of_ble_eq_true rfl) ⟨Nat.le_of_ble_eq_true rfl, Nat.le_of_ble_eq_true rfl⟩ ?_
  rintro z271 m271 h271
  obtain ⟨e1, f1, c1⟩ := h271
  have r1 := hR.h f1 c1
  refine R_aload_n 275 rfl dL_law_274 rfl ?_
  refine R_aload_n 276 rfl dL_law_275 rfl ?_
  refine R_iload_n 277 rfl dL_law_276 rfl ?_
  refine R_iconst 278 rfl dL_law_277 ?_
  refine R_iadd 279 rfl dL_law_278 ?_
  refine R_sld (i + 1) 280 rfl dL_law_279 (by omega) (by omega) hN3 ?_
  refine R_callV_I (M' := mX11_end) 283 rfl dL_law_280 ml_L_24 kmX11_end im_X11_end se_X11_end rfl ⟨by decide, rfl⟩ (y_end _ r1 (sc_rg _ _)) rfl rfl ⟨Nat.le_of_ble_eq_true rfl, Nat.le_of_ble_eq_true rfl⟩ (Nat.le_of_ble_eq_true rfl) ⟨Nat.le_of_ble_eq_true rfl, Nat.le_of_ble_eq_true rfl⟩ ?_
  rintro z280 m280 h280
  obtain ⟨e2, f2, r2⟩ := h280
  have c2 := c1.l f2
  refine R_icmp_same 1680 rfl dL_law_283 (e1.trans e2.symm) ?_
  exact nx _ _ _ _ _ _ _ _ _ c2 r2
theorem lw_land (hΓ : GOk Γ) (i : Nat) (zi : Int) (hzi : zi = (i : Int)) (hlen : i + 7 ≤ gN Γ) (hN3 : gN Γ ≤ 3584) (hC : IC L B ch T F I S N m) (hR : IR L B ch T F I S N m) (nx : NX Γ zi) : R Γ mL room_1 113 5922 QW 113 5922 288 [some (vr 2000000), some (vr 0), some (vr 96), some (vi zi)] [] SH m := by
  refine R_aload_n 289 rfl dL_law_288 rfl ?_
  refine R_callV_I (M' := mX10_land) 292 rfl dL_law_289 ml_L_25 kmX10_land im_X10_land se_X10_land rfl ⟨by decide, rfl⟩ (x_land hΓ  hC ) rfl rfl ⟨Nat.le_of_ble_eq_true rfl, Nat.le_of_ble_eq_true rfl⟩ (Nat.le_of_ble_eq_true rfl) ⟨Nat.le_of_ble_eq_true rfl, Nat.le_of_ble_eq_true rfl⟩ ?_
  rintro z289 m289 h289
  obtain ⟨e1, f1, c1⟩ := h289
  have r1 := hR.h f1 c1
  refine R_aload_n 293 rfl dL_law_292 rfl ?_
  refine R_callV_I (M' := mX11_land) 296 rfl dL_law_293 ml_L_29 kmX11_land im_X11_land se_X11_land rfl ⟨by decide, rfl⟩ (y_land  r1 ) rfl rfl ⟨Nat.le_of_ble_eq_true rfl, Nat.le_of_ble_eq_true rfl⟩ (Nat.le_of_ble_eq_true rfl) ⟨Nat.le_of_ble_eq_true rfl, Nat.le_of_ble_eq_true rfl⟩ ?_
  rintro z293 m293 h293
  obtain ⟨e2, f2, r2⟩ := h293
  have c2 := c1.l f2
  refine R_icmp_same 1680 rfl dL_law_296 (e1.trans e2.symm) ?_
  exact nx _ _ _ _ _ _ _ _ _ c2 r2
theorem lw_fault (hΓ : GOk Γ) (i : Nat) (zi : Int) (hzi : zi = (i : Int)) (hlen : i + 7 ≤ gN Γ) (hN3 : gN Γ ≤ 3584) (hC : IC L B ch T F I S N m) (hR : IR L B ch T F I S N m) (nx : NX Γ zi) : R Γ mL room_1 113 5922 QW 113 5922 301 [some (vr 2000000), some (vr 0), some (vr 96), some (vi zi)] [] SH m := by
  refine R_aload_n 302 rfl dL_law_301 rfl ?_
  refine R_callV_I (M' := mX10_fault) 305 rfl dL_law_302 ml_L_30 kmX10_fault im_X10_fault se_X10_fault rfl ⟨by decide, rfl⟩ (x_fault  hC ) rfl rfl ⟨Nat.le_of_ble_eq_true rfl, Nat.le_of_ble_eq_true rfl⟩ (Nat.le_of_ble_eq_true rfl) ⟨Nat.le_of_ble_eq_true rfl, Nat.le_of_ble_eq_true rfl⟩ ?_
  rintro z302 m302 h302
  obtain ⟨e1, f1, c1⟩ := h302
  have r1 := hR.h f1 c1
  refine R_aload_n 306 rfl dL_law_305 rfl ?_
  refine R_callV_I (M' := mX11_fault) 309 rfl dL_law_306 ml_L_33 kmX11_fault im_X11_fault se_X11_fault rfl ⟨by decide, rfl⟩ (y_fault  r1 ) rfl rfl ⟨Nat.le_of_ble_eq_true rfl, Nat.le_of_ble_eq_true rfl⟩ (Nat.le_of_ble_eq_true rfl) ⟨Nat.le_of_ble_eq_true rfl, Nat.le_of_ble_eq_true rfl⟩ ?_
  rintro z306 m306 h306
  obtain ⟨e2, f2, r2⟩ := h306
  have c2 := c1.l f2
  refine R_icmp_same 1680 rfl dL_law_309 (e1.trans e2.symm) ?_
  exact nx _ _ _ _ _ _ _ _ _ c2 r2
theorem lw_told (hΓ : GOk Γ) (i : Nat) (zi : Int) (hzi : zi = (i : Int)) (hlen : i + 7 ≤ gN Γ) (hN3 : gN Γ ≤ 3584) (hC : IC L B ch T F I S N m) (hR : IR L B ch T F I S N m) (nx : NX Γ zi) : R Γ mL room_1 113 5922 QW 113 5922 314 [some (vr 2000000), some (vr 0), some (vr 96), some (vi zi)] [] SH m := by
  refine R_aload_n 315 rfl dL_law_314 rfl ?_
  refine R_aload_n 316 rfl dL_law_315 rfl ?_
  refine R_iload_n 317 rfl dL_law_316 rfl ?_
  refine R_iconst 318 rfl dL_law_317 ?_
  refine R_iadd 319 rfl dL_law_318 ?_
  refine R_sld (i + 1) 320 rfl dL_law_319 (by omega) (by omega) hN3 ?_
  refine R_callV_I (M' := mX10_told) 323 rfl dL_law_320 ml_L_34 kmX10_told im_X10_told se_X10_told rfl ⟨by decide, rfl⟩ (x_told _ hC (sc_rg _ _)) rfl rfl ⟨Nat.le_of_ble_eq_true rfl, Nat.le_of_ble_eq_true rfl⟩ (Nat.le_of_ble_eq_true rfl) ⟨Nat.le_of_ble_eq_true rfl, Nat.le_of_ble_eq_true rfl⟩ ?_
  rintro z320 m320 h320
  obtain ⟨e1, f1, c1⟩ := h320
  have r1 := hR.h f1 c1
  refine R_aload_n 324 rfl dL_law_323 rfl ?_
  refine R_aload_n 325 rfl dL_law_324 rfl ?_
  refine R_iload_n 326 rfl dL_law_325 rfl ?_
  refine R_iconst 327 rfl dL_law_326 ?_
  refine R_iadd 328 rfl dL_law_327 ?_
  refine R_sld (i + 1) 329 rfl dL_law_328 (by omega) (by omega) hN3 ?_
  refine R_callV_I (M' := mX11_told) 332 rfl dL_law_329 ml_L_37 kmX11_told im_X11_told se_X11_told rfl ⟨by decide, rfl⟩ (y_told _ r1 (sc_rg _ _)) rfl rfl ⟨Nat.le_of_ble_eq_true rfl, Nat.le_of_ble_eq_true rfl⟩ (Nat.le_of_ble_eq_true rfl) ⟨Nat.le_of_ble_eq_true rfl, Nat.le_of_ble_eq_true rfl⟩ ?_
  rintro z329 m329 h329
  obtain ⟨e2, f2, r2⟩ := h329
  have c2 := c1.l f2
  refine R_icmp_same 1680 rfl dL_law_332 (e1.trans e2.symm) ?_
  exact nx _ _ _ _ _ _ _ _ _ c2 r2
theorem lw_parish (hΓ : GOk Γ) (i : Nat) (zi : Int) (hzi : zi = (i : Int)) (hlen : i + 7 ≤ gN Γ) (hN3 : gN Γ ≤ 3584) (hC : IC L B ch T F I S N m) (hR : IR L B ch T F I S N m) (nx : NX Γ zi) : R Γ mL room_1 113 5922 QW 113 5922 337 [some (vr 2000000), some (vr 0), some (vr 96), some (vi zi)] [] SH m := by
  refine R_aload_n 338 rfl dL_law_337 rfl ?_
  refine R_aload_n 339 rfl dL_law_338 rfl ?_
  refine R_iload_n 340 rfl dL_law_339 rfl ?_
  refine R_iconst 341 rfl dL_law_340 ?_
  refine R_iadd 342 rfl dL_law_341 ?_
  refine R_sld (i + 1) 343 rfl dL_law_342 (by omega) (by omega) hN3 ?_
  refine R_aload_n 344 rfl dL_law_343 rfl ?_
  refine R_iload_n 345 rfl dL_law_344 rfl ?_
  refine R_iconst 346 rfl dL_law_345 ?_
  refine R_iadd 347 rfl dL_law_346 ?_
  refine R_sld (i + 2) 348 rfl dL_law_347 (by omega) (by omega) hN3 ?_
  refine R_callV_I (M' := mX10_parish) 351 rfl dL_law_348 ml_L_38 kmX10_parish im_X10_parish se_X10_parish rfl ⟨by decide, rfl⟩ (x_parish _ _ hC (sc_rg _ _) (sc_rg _ _)) rfl rfl ⟨Nat.le_of_ble_eq_true rfl, Nat.le_of_ble_eq_true rfl⟩ (Nat.le_of_ble_eq_true rfl) ⟨Nat.le_of_ble_eq_true rfl, Nat.le_of_ble_eq_true rfl⟩ ?_
  rintro z348 m348 h348
  obtain ⟨e1, f1, c1⟩ := h348
  have r1 := hR.h f1 c1
  refine R_aload_n 352 rfl dL_law_351 rfl ?_
  refine R_aload_n 353 rfl dL_law_352 rfl ?_
  refine R_iload_n 354 rfl dL_law_353 rfl ?_
  refine R_iconst 355 rfl dL_law_354 ?_
  refine R_iadd 356 rfl dL_law_355 ?_
  refine R_sld (i + 1) 357 rfl dL_law_356 (by omega) (by omega) hN3 ?_
  refine R_aload_n 358 rfl dL_law_357 rfl ?_
  refine R_iload_n 359 rfl dL_law_358 rfl ?_
  refine R_iconst 360 rfl dL_law_359 ?_
  refine R_iadd 361 rfl dL_law_360 ?_
  refine R_sld (i + 2) 362 rfl dL_law_361 (by omega) (by omega) hN3 ?_
  refine R_callV_I (M' := mX11_parish) 365 rfl dL_law_362 ml_L_42 kmX11_parish im_X11_parish se_X11_parish rfl ⟨by decide, rfl⟩ (y_parish _ _ r1 (sc_rg _ _) (sc_rg _ _)) rfl rfl ⟨Nat.le_of_ble_eq_true rfl, Nat.le_of_ble_eq_true rfl⟩ (Nat.le_of_ble_eq_true rfl) ⟨Nat.le_of_ble_eq_true rfl, Nat.le_of_ble_eq_true rfl⟩ ?_
  rintro z362 m362 h362
  obtain ⟨e2, f2, r2⟩ := h362
  have c2 := c1.l f2
  refine R_icmp_same 1680 rfl dL_law_365 (e1.trans e2.symm) ?_
  exact nx _ _ _ _ _ _ _ _ _ c2 r2
theorem lw_clerk (hΓ : GOk Γ) (i : Nat) (zi : Int) (hzi : zi = (i : Int)) (hlen : i + 7 ≤ gN Γ) (hN3 : gN Γ ≤ 3584) (hC : IC L B ch T F I S N m) (hR : IR L B ch T F I S N m) (nx : NX Γ zi) : R Γ mL room_1 113 5922 QW 113 5922 370 [some (vr 2000000), some (vr 0), some (vr 96), some (vi zi)] [] SH m := by
  refine R_aload_n 371 rfl dL_law_370 rfl ?_
  refine R_aload_n 372 rfl dL_law_371 rfl ?_
  refine R_iload_n 373 rfl dL_law_372 rfl ?_
  refine R_iconst 374 rfl dL_law_373 ?_
  refine R_iadd 375 rfl dL_law_374 ?_
  refine R_sld (i + 1) 376 rfl dL_law_375 (by omega) (by omega) hN3 ?_
  refine R_aload_n 377 rfl dL_law_376 rfl ?_
  refine R_iload_n 378 rfl dL_law_377 rfl ?_
  refine R_iconst 379 rfl dL_law_378 ?_
  refine R_iadd 380 rfl dL_law_379 ?_
  refine R_sld (i + 2) 381 rfl dL_law_380 (by omega) (by omega) hN3 ?_
  refine R_callV_I (M' := mX10_clerk) 384 rfl dL_law_381 ml_L_43 kmX10_clerk im_X10_clerk se_X10_clerk rfl ⟨by decide, rfl⟩ (x_clerk _ _ hC (sc_rg _ _) (sc_rg _ _)) rfl rfl ⟨Nat.le_of_ble_eq_true rfl, Nat.le_of_ble_eq_true rfl⟩ (Nat.le_of_ble_eq_true rfl) ⟨Nat.le_of_ble_eq_true rfl, Nat.le_of_ble_eq_true rfl⟩ ?_
  rintro z381 m381 h381
  obtain ⟨e1, f1, c1⟩ := h381
  have r1 := hR.h f1 c1
  refine R_aload_n 385 rfl dL_law_384 rfl ?_
  refine R_aload_n 386 rfl dL_law_385 rfl ?_
  refine R_iload_n 387 rfl dL_law_386 rfl ?_
  refine R_iconst 388 rfl dL_law_387 ?_
  refine R_iadd 389 rfl dL_law_388 ?_
  refine R_sld (i + 1) 390 rfl dL_law_389 (by omega) (by omega) hN3 ?_
  refine R_aload_n 391 rfl dL_law_390 rfl ?_
  refine R_iload_n 392 rfl dL_law_391 rfl ?_
  refine R_iconst 393 rfl dL_law_392 ?_
  refine R_iadd 394 rfl dL_law_393 ?_
  refine R_sld (i + 2) 395 rfl dL_law_394 (by omega) (by omega) hN3 ?_
  refine R_callV_I (M' := mX11_clerk) 398 rfl dL_law_395 ml_L_46 kmX11_clerk im_X11_clerk se_X11_clerk rfl ⟨by decide, rfl⟩ (y_clerk _ _ r1 (sc_rg _ _) (sc_rg _ _)) rfl rfl ⟨Nat.le_of_ble_eq_true rfl, Nat.le_of_ble_eq_true rfl⟩ (Nat.le_of_ble_eq_true rfl) ⟨Nat.le_of_ble_eq_true rfl, Nat.le_of_ble_eq_true rfl⟩ ?_
  rintro z395 m395 h395
  obtain ⟨e2, f2, r2⟩ := h395
  have c2 := c1.l f2
  refine R_icmp_same 1680 rfl dL_law_398 (e1.trans e2.symm) ?_
  exact nx _ _ _ _ _ _ _ _ _ c2 r2
theorem lw_marry (hΓ : GOk Γ) (i : Nat) (zi : Int) (hzi : zi = (i : Int)) (hlen : i + 7 ≤ gN Γ) (hN3 : gN Γ ≤ 3584) (hC : IC L B ch T F I S N m) (hR : IR L B ch T F I S N m) (nx : NX Γ zi) : R Γ mL room_1 113 5922 QW 113 5922 403 [some (vr 2000000), some (vr 0), some (vr 96), some (vi zi)] [] SH m := by
  refine R_aload_n 404 rfl dL_law_403 rfl ?_
  refine R_aload_n 405 rfl dL_law_404 rfl ?_
  refine R_iload_n 406 rfl dL_law_405 rfl ?_
  refine R_iconst 407 rfl dL_law_406 ?_
  refine R_iadd 408 rfl dL_law_407 ?_
  refine R_sld (i + 1) 409 rfl dL_law_408 (by omega) (by omega) hN3 ?_
  refine R_aload_n 410 rfl dL_law_409 rfl ?_
  refine R_iload_n 411 rfl dL_law_410 rfl ?_
  refine R_iconst 412 rfl dL_law_411 ?_
  refine R_iadd 413 rfl dL_law_412 ?_
  refine R_sld (i + 2) 414 rfl dL_law_413 (by omega) (by omega) hN3 ?_
  refine R_aload_n 415 rfl dL_law_414 rfl ?_
  refine R_iload_n 416 rfl dL_law_415 rfl ?_
  refine R_iconst 417 rfl dL_law_416 ?_
  refine R_iadd 418 rfl dL_law_417 ?_
  refine R_sld (i + 3) 419 rfl dL_law_418 (by omega) (by omega) hN3 ?_
  refine R_aload_n 420 rfl dL_law_419 rfl ?_
  refine R_iload_n 421 rfl dL_law_420 rfl ?_
  refine R_iconst 422 rfl dL_law_421 ?_
  refine R_iadd 423 rfl dL_law_422 ?_
  refine R_sld (i + 4) 424 rfl dL_law_423 (by omega) (by omega) hN3 ?_
  refine R_aload_n 425 rfl dL_law_424 rfl ?_
  refine R_iload_n 426 rfl dL_law_425 rfl ?_
  refine R_iconst 427 rfl dL_law_426 ?_
  refine R_iadd 428 rfl dL_law_427 ?_
  refine R_sld (i + 5) 429 rfl dL_law_428 (by omega) (by omega) hN3 ?_
  refine R_callV_I (M' := mX10_marry) 432 rfl dL_law_429 ml_L_47 kmX10_marry im_X10_marry se_X10_marry rfl ⟨by decide, rfl⟩ (x_marry _ _ _ _ _ hC (sc_rg _ _) (sc_rg _ _) (sc_rg _ _) (sc_rg _ _) (sc_rg _ _)) rfl rfl ⟨Nat.le_of_ble_eq_true rfl, Nat.le_of_ble_eq_true rfl⟩ (Nat.le_of_ble_eq_true rfl) ⟨Nat.le_of_ble_eq_true rfl, Nat.le_of_ble_eq_true rfl⟩ ?_
  rintro z429 m429 h429
  obtain ⟨e1, f1, c1⟩ := h429
  have r1 := hR.h f1 c1
  refine R_aload_n 433 rfl dL_law_432 rfl ?_
  refine R_aload_n 434 rfl dL_law_433 rfl ?_
  refine R_iload_n 435 rfl dL_law_434 rfl ?_
  refine R_iconst 436 rfl dL_law_435 ?_
  refine R_iadd 437 rfl dL_law_436 ?_
  refine R_sld (i + 1) 438 rfl dL_law_437 (by omega) (by omega) hN3 ?_
  refine R_aload_n 439 rfl dL_law_438 rfl ?_
  refine R_iload_n 440 rfl dL_law_439 rfl ?_
  refine R_iconst 441 rfl dL_law_440 ?_
  refine R_iadd 442 rfl dL_law_441 ?_
  refine R_sld (i + 2) 443 rfl dL_law_442 (by omega) (by omega) hN3 ?_
  refine R_aload_n 444 rfl dL_law_443 rfl ?_
  refine R_iload_n 445 rfl dL_law_444 rfl ?_
  refine R_iconst 446 rfl dL_law_445 ?_
  refine R_iadd 447 rfl dL_law_446 ?_
  refine R_sld (i + 3) 448 rfl dL_law_447 (by omega) (by omega) hN3 ?_
  refine R_aload_n 449 rfl dL_law_448 rfl ?_
  refine R_iload_n 450 rfl dL_law_449 rfl ?_
  refine R_iconst 451 rfl dL_law_450 ?_
  refine R_iadd 452 rfl dL_law_451 ?_
  refine R_sld (i + 4) 453 rfl dL_law_452 (by omega) (by omega) hN3 ?_
  refine R_aload_n 454 rfl dL_law_453 rfl ?_
  refine R_iload_n 455 rfl dL_law_454 rfl ?_
  refine R_iconst 456 rfl dL_law_455 ?_
  refine R_iadd 457 rfl dL_law_456 ?_
  refine R_sld (i + 5) 458 rfl dL_law_457 (by omega) (by omega) hN3 ?_
  refine R_callV_I (M' := mX11_marry) 461 rfl dL_law_458 ml_L_51 kmX11_marry im_X11_marry se_X11_marry rfl ⟨by decide, rfl⟩ (y_marry _ _ _ _ _ r1 (sc_rg _ _) (sc_rg _ _) (sc_rg _ _) (sc_rg _ _) (sc_rg _ _)) rfl rfl ⟨Nat.le_of_ble_eq_true rfl, Nat.le_of_ble_eq_true rfl⟩ (Nat.le_of_ble_eq_true rfl) ⟨Nat.le_of_ble_eq_true rfl, Nat.le_of_ble_eq_true rfl⟩ ?_
  rintro z458 m458 h458
  obtain ⟨e2, f2, r2⟩ := h458
  have c2 := c1.l f2
  refine R_icmp_same 1680 rfl dL_law_461 (e1.trans e2.symm) ?_
  exact nx _ _ _ _ _ _ _ _ _ c2 r2
theorem lw_set (hΓ : GOk Γ) (i : Nat) (zi : Int) (hzi : zi = (i : Int)) (hlen : i + 7 ≤ gN Γ) (hN3 : gN Γ ≤ 3584) (hC : IC L B ch T F I S N m) (hR : IR L B ch T F I S N m) (nx : NX Γ zi) : R Γ mL room_1 113 5922 QW 113 5922 466 [some (vr 2000000), some (vr 0), some (vr 96), some (vi zi)] [] SH m := by
  refine R_aload_n 467 rfl dL_law_466 rfl ?_
  refine R_aload_n 468 rfl dL_law_467 rfl ?_
  refine R_iload_n 469 rfl dL_law_468 rfl ?_
  refine R_iconst 470 rfl dL_law_469 ?_
  refine R_iadd 471 rfl dL_law_470 ?_
  refine R_sld (i + 1) 472 rfl dL_law_471 (by omega) (by omega) hN3 ?_
  refine R_aload_n 473 rfl dL_law_472 rfl ?_
  refine R_iload_n 474 rfl dL_law_473 rfl ?_
  refine R_iconst 475 rfl dL_law_474 ?_
  refine R_iadd 476 rfl dL_law_475 ?_
  refine R_sld (i + 2) 477 rfl dL_law_476 (by omega) (by omega) hN3 ?_
  refine R_aload_n 478 rfl dL_law_477 rfl ?_
  refine R_iload_n 479 rfl dL_law_478 rfl ?_
  refine R_iconst 480 rfl dL_law_479 ?_
  refine R_iadd 481 rfl dL_law_480 ?_
  refine R_sld (i + 3) 482 rfl dL_law_481 (by omega) (by omega) hN3 ?_
  refine R_aload_n 483 rfl dL_law_482 rfl ?_
  refine R_iload_n 484 rfl dL_law_483 rfl ?_
  refine R_iconst 485 rfl dL_law_484 ?_
  refine R_iadd 486 rfl dL_law_485 ?_
  refine R_sld (i + 4) 487 rfl dL_law_486 (by omega) (by omega) hN3 ?_
  refine R_callV_I (M' := mX10_set) 490 rfl dL_law_487 ml_L_52 kmX10_set im_X10_set se_X10_set rfl ⟨by decide, rfl⟩ (x_set _ _ _ _ hC (sc_rg _ _) (sc_rg _ _) (sc_rg _ _) (sc_rg _ _)) rfl rfl ⟨Nat.le_of_ble_eq_true rfl, Nat.le_of_ble_eq_true rfl⟩ (Nat.le_of_ble_eq_true rfl) ⟨Nat.le_of_ble_eq_true rfl, Nat.le_of_ble_eq_true rfl⟩ ?_
  rintro z487 m487 h487
  obtain ⟨e1, f1, c1⟩ := h487
  have r1 := hR.h f1 c1
  refine R_aload_n 491 rfl dL_law_490 rfl ?_
  refine R_aload_n 492 rfl dL_law_491 rfl ?_
  refine R_iload_n 493 rfl dL_law_492 rfl ?_
  refine R_iconst 494 rfl dL_law_493 ?_
  refine R_iadd 495 rfl dL_law_494 ?_
  refine R_sld (i + 1) 496 rfl dL_law_495 (by omega) (by omega) hN3 ?_
  refine R_aload_n 497 rfl dL_law_496 rfl ?_
  refine R_iload_n 498 rfl dL_law_497 rfl ?_
  refine R_iconst 499 rfl dL_law_498 ?_
  refine R_iadd 500 rfl dL_law_499 ?_
  refine R_sld (i + 2) 501 rfl dL_law_500 (by omega) (by omega) hN3 ?_
  refine R_aload_n 502 rfl dL_law_501 rfl ?_
  refine R_iload_n 503 rfl dL_law_502 rfl ?_
  refine R_iconst 504 rfl dL_law_503 ?_
  refine R_iadd 505 rfl dL_law_504 ?_
  refine R_sld (i + 3) 506 rfl dL_law_505 (by omega) (by omega) hN3 ?_
  refine R_aload_n 507 rfl dL_law_506 rfl ?_
  refine R_iload_n 508 rfl dL_law_507 rfl ?_
  refine R_iconst 509 rfl dL_law_508 ?_
  refine R_iadd 510 rfl dL_law_509 ?_
  refine R_sld (i + 4) 511 rfl dL_law_510 (by omega) (by omega) hN3 ?_
  refine R_callV_I (M' := mX11_set) 514 rfl dL_law_511 ml_L_56 kmX11_set im_X11_set se_X11_set rfl ⟨by decide, rfl⟩ (y_set _ _ _ _ r1 (sc_rg _ _) (sc_rg _ _) (sc_rg _ _) (sc_rg _ _)) rfl rfl ⟨Nat.le_of_ble_eq_true rfl, Nat.le_of_ble_eq_true rfl⟩ (Nat.le_of_ble_eq_true rfl) ⟨Nat.le_of_ble_eq_true rfl, Nat.le_of_ble_eq_true rfl⟩ ?_
  rintro z511 m511 h511
  obtain ⟨e2, f2, r2⟩ := h511
  have c2 := c1.l f2
  refine R_icmp_same 1680 rfl dL_law_514 (e1.trans e2.symm) ?_
  exact nx _ _ _ _ _ _ _ _ _ c2 r2
theorem lw_of (hΓ : GOk Γ) (i : Nat) (zi : Int) (hzi : zi = (i : Int)) (hlen : i + 7 ≤ gN Γ) (hN3 : gN Γ ≤ 3584) (hC : IC L B ch T F I S N m) (hR : IR L B ch T F I S N m) (nx : NX Γ zi) : R Γ mL room_1 113 5922 QW 113 5922 519 [some (vr 2000000), some (vr 0), some (vr 96), some (vi zi)] [] SH m := by
  refine R_aload_n 520 rfl dL_law_519 rfl ?_
  refine R_aload_n 521 rfl dL_law_520 rfl ?_
  refine R_iload_n 522 rfl dL_law_521 rfl ?_
  refine R_iconst 523 rfl dL_law_522 ?_
  refine R_iadd 524 rfl dL_law_523 ?_
  refine R_sld (i + 1) 525 rfl dL_law_524 (by omega) (by omega) hN3 ?_
  refine R_aload_n 526 rfl dL_law_525 rfl ?_
  refine R_iload_n 527 rfl dL_law_526 rfl ?_
  refine R_iconst 528 rfl dL_law_527 ?_
  refine R_iadd 529 rfl dL_law_528 ?_
  refine R_sld (i + 2) 530 rfl dL_law_529 (by omega) (by omega) hN3 ?_
  refine R_callV_I (M' := mX10_of) 533 rfl dL_law_530 ml_L_57 kmX10_of im_X10_of se_X10_of rfl ⟨by decide, rfl⟩ (x_of _ _ hC (sc_rg _ _) (sc_rg _ _)) rfl rfl ⟨Nat.le_of_ble_eq_true rfl, Nat.le_of_ble_eq_true rfl⟩ (Nat.le_of_ble_eq_true rfl) ⟨Nat.le_of_ble_eq_true rfl, Nat.le_of_ble_eq_true rfl⟩ ?_
  rintro z530 m530 h530
  obtain ⟨e1, f1, c1⟩ := h530
  have r1 := hR.h f1 c1
  refine R_aload_n 534 rfl dL_law_533 rfl ?_
  refine R_aload_n 535 rfl dL_law_534 rfl ?_
  refine R_iload_n 536 rfl dL_law_535 rfl ?_
  refine R_iconst 537 rfl dL_law_536 ?_
  refine R_iadd 538 rfl dL_law_537 ?_
  refine R_sld (i + 1) 539 rfl dL_law_538 (by omega) (by omega) hN3 ?_
  refine R_aload_n 540 rfl dL_law_539 rfl ?_
  refine R_iload_n 541 rfl dL_law_540 rfl ?_
  refine R_iconst 542 rfl dL_law_541 ?_
  refine R_iadd 543 rfl dL_law_542 ?_
  refine R_sld (i + 2) 544 rfl dL_law_543 (by omega) (by omega) hN3 ?_
  refine R_callV_I (M' := mX11_of) 547 rfl dL_law_544 ml_L_60 kmX11_of im_X11_of se_X11_of rfl ⟨by decide, rfl⟩ (y_of _ _ r1 (sc_rg _ _) (sc_rg _ _)) rfl rfl ⟨Nat.le_of_ble_eq_true rfl, Nat.le_of_ble_eq_true rfl⟩ (Nat.le_of_ble_eq_true rfl) ⟨Nat.le_of_ble_eq_true rfl, Nat.le_of_ble_eq_true rfl⟩ ?_
  rintro z544 m544 h544
  obtain ⟨e2, f2, r2⟩ := h544
  have c2 := c1.l f2
  refine R_icmp_same 1680 rfl dL_law_547 (e1.trans e2.symm) ?_
  exact nx _ _ _ _ _ _ _ _ _ c2 r2
theorem lw_has (hΓ : GOk Γ) (i : Nat) (zi : Int) (hzi : zi = (i : Int)) (hlen : i + 7 ≤ gN Γ) (hN3 : gN Γ ≤ 3584) (hC : IC L B ch T F I S N m) (hR : IR L B ch T F I S N m) (nx : NX Γ zi) : R Γ mL room_1 113 5922 QW 113 5922 552 [some (vr 2000000), some (vr 0), some (vr 96), some (vi zi)] [] SH m := by
  refine R_aload_n 553 rfl dL_law_552 rfl ?_
  refine R_aload_n 554 rfl dL_law_553 rfl ?_
  refine R_iload_n 555 rfl dL_law_554 rfl ?_
  refine R_iconst 556 rfl dL_law_555 ?_
  refine R_iadd 557 rfl dL_law_556 ?_
  refine R_sld (i + 1) 558 rfl dL_law_557 (by omega) (by omega) hN3 ?_
  refine R_aload_n 559 rfl dL_law_558 rfl ?_
  refine R_iload_n 560 rfl dL_law_559 rfl ?_
  refine R_iconst 561 rfl dL_law_560 ?_
  refine R_iadd 562 rfl dL_law_561 ?_
  refine R_sld (i + 2) 563 rfl dL_law_562 (by omega) (by omega) hN3 ?_
  refine R_aload_n 564 rfl dL_law_563 rfl ?_
  refine R_iload_n 565 rfl dL_law_564 rfl ?_
  refine R_iconst 566 rfl dL_law_565 ?_
  refine R_iadd 567 rfl dL_law_566 ?_
  refine R_sld (i + 3) 568 rfl dL_law_567 (by omega) (by omega) hN3 ?_
  refine R_callV_I (M' := mX10_has) 571 rfl dL_law_568 ml_L_61 kmX10_has im_X10_has se_X10_has rfl ⟨by decide, rfl⟩ (x_has _ _ _ hC (sc_rg _ _) (sc_rg _ _) (sc_rg _ _)) rfl rfl ⟨Nat.le_of_ble_eq_true rfl, Nat.le_of_ble_eq_true rfl⟩ (Nat.le_of_ble_eq_true rfl) ⟨Nat.le_of_ble_eq_true rfl, Nat.le_of_ble_eq_true rfl⟩ ?_
  rintro z568 m568 h568
  obtain ⟨e1, f1, c1⟩ := h568
  have r1 := hR.h f1 c1
  refine R_aload_n 572 rfl dL_law_571 rfl ?_
  refine R_aload_n 573 rfl dL_law_572 rfl ?_
  refine R_iload_n 574 rfl dL_law_573 rfl ?_
  refine R_iconst 575 rfl dL_law_574 ?_
  refine R_iadd 576 rfl dL_law_575 ?_
  refine R_sld (i + 1) 577 rfl dL_law_576 (by omega) (by omega) hN3 ?_
  refine R_aload_n 578 rfl dL_law_577 rfl ?_
  refine R_iload_n 579 rfl dL_law_578 rfl ?_
  refine R_iconst 580 rfl dL_law_579 ?_
  refine R_iadd 581 rfl dL_law_580 ?_
  refine R_sld (i + 2) 582 rfl dL_law_581 (by omega) (by omega) hN3 ?_
  refine R_aload_n 583 rfl dL_law_582 rfl ?_
  refine R_iload_n 584 rfl dL_law_583 rfl ?_
  refine R_iconst 585 rfl dL_law_584 ?_
  refine R_iadd 586 rfl dL_law_585 ?_
  refine R_sld (i + 3) 587 rfl dL_law_586 (by omega) (by omega) hN3 ?_
  refine R_callV_I (M' := mX11_has) 590 rfl dL_law_587 ml_L_65 kmX11_has im_X11_has se_X11_has rfl ⟨by decide, rfl⟩ (y_has _ _ _ r1 (sc_rg _ _) (sc_rg _ _) (sc_rg _ _)) rfl rfl ⟨Nat.le_of_ble_eq_true rfl, Nat.le_of_ble_eq_true rfl⟩ (Nat.le_of_ble_eq_true rfl) ⟨Nat.le_of_ble_eq_true rfl, Nat.le_of_ble_eq_true rfl⟩ ?_
  rintro z587 m587 h587
  obtain ⟨e2, f2, r2⟩ := h587
  have c2 := c1.l f2
  refine R_icmp_same 1680 rfl dL_law_590 (e1.trans e2.symm) ?_
  exact nx _ _ _ _ _ _ _ _ _ c2 r2
theorem lw_kind (hΓ : GOk Γ) (i : Nat) (zi : Int) (hzi : zi = (i : Int)) (hlen : i + 7 ≤ gN Γ) (hN3 : gN Γ ≤ 3584) (hC : IC L B ch T F I S N m) (hR : IR L B ch T F I S N m) (nx : NX Γ zi) : R Γ mL room_1 113 5922 QW 113 5922 595 [some (vr 2000000), some (vr 0), some (vr 96), some (vi zi)] [] SH m := by
  refine R_aload_n 596 rfl dL_law_595 rfl ?_
  refine R_aload_n 597 rfl dL_law_596 rfl ?_
  refine R_iload_n 598 rfl dL_law_597 rfl ?_
  refine R_iconst 599 rfl dL_law_598 ?_
  refine R_iadd 600 rfl dL_law_599 ?_
  refine R_sld (i + 1) 601 rfl dL_law_600 (by omega) (by omega) hN3 ?_
  refine R_aload_n 602 rfl dL_law_601 rfl ?_
  refine R_iload_n 603 rfl dL_law_602 rfl ?_
  refine R_iconst 604 rfl dL_law_603 ?_
  refine R_iadd 605 rfl dL_law_604 ?_
  refine R_sld (i + 2) 606 rfl dL_law_605 (by omega) (by omega) hN3 ?_
  refine R_callV_I (M' := mX10_kind) 609 rfl dL_law_606 ml_L_66 kmX10_kind im_X10_kind se_X10_kind rfl ⟨by decide, rfl⟩ (x_kind _ _ hC (sc_rg _ _) (sc_rg _ _)) rfl rfl ⟨Nat.le_of_ble_eq_true rfl, Nat.le_of_ble_eq_true rfl⟩ (Nat.le_of_ble_eq_true rfl) ⟨Nat.le_of_ble_eq_true rfl, Nat.le_of_ble_eq_true rfl⟩ ?_
  rintro z606 m606 h606
  obtain ⟨e1, f1, c1⟩ := h606
  have r1 := hR.h f1 c1
  refine R_aload_n 610 rfl dL_law_609 rfl ?_
  refine R_aload_n 611 rfl dL_law_610 rfl ?_
  refine R_iload_n 612 rfl dL_law_611 rfl ?_
  refine R_iconst 613 rfl dL_law_612 ?_
  refine R_iadd 614 rfl dL_law_613 ?_
  refine R_sld (i + 1) 615 rfl dL_law_614 (by omega) (by omega) hN3 ?_
  refine R_aload_n 616 rfl dL_law_615 rfl ?_
  refine R_iload_n 617 rfl dL_law_616 rfl ?_
  refine R_iconst 618 rfl dL_law_617 ?_
  refine R_iadd 619 rfl dL_law_618 ?_
  refine R_sld (i + 2) 620 rfl dL_law_619 (by omega) (by omega) hN3 ?_
  refine R_callV_I (M' := mX11_kind) 623 rfl dL_law_620 ml_L_69 kmX11_kind im_X11_kind se_X11_kind rfl ⟨by decide, rfl⟩ (y_kind _ _ r1 (sc_rg _ _) (sc_rg _ _)) rfl rfl ⟨Nat.le_of_ble_eq_true rfl, Nat.le_of_ble_eq_true rfl⟩ (Nat.le_of_ble_eq_true rfl) ⟨Nat.le_of_ble_eq_true rfl, Nat.le_of_ble_eq_true rfl⟩ ?_
  rintro z620 m620 h620
  obtain ⟨e2, f2, r2⟩ := h620
  have c2 := c1.l f2
  refine R_icmp_same 1680 rfl dL_law_623 (e1.trans e2.symm) ?_
  exact nx _ _ _ _ _ _ _ _ _ c2 r2
theorem lw_writer (hΓ : GOk Γ) (i : Nat) (zi : Int) (hzi : zi = (i : Int)) (hlen : i + 7 ≤ gN Γ) (hN3 : gN Γ ≤ 3584) (hC : IC L B ch T F I S N m) (hR : IR L B ch T F I S N m) (nx : NX Γ zi) : R Γ mL room_1 113 5922 QW 113 5922 628 [some (vr 2000000), some (vr 0), some (vr 96), some (vi zi)] [] SH m := by
  refine R_aload_n 629 rfl dL_law_628 rfl ?_
  refine R_aload_n 630 rfl dL_law_629 rfl ?_
  refine R_iload_n 631 rfl dL_law_630 rfl ?_
  refine R_iconst 632 rfl dL_law_631 ?_
  refine R_iadd 633 rfl dL_law_632 ?_
  refine R_sld (i + 1) 634 rfl dL_law_633 (by omega) (by omega) hN3 ?_
  refine R_aload_n 635 rfl dL_law_634 rfl ?_
  refine R_iload_n 636 rfl dL_law_635 rfl ?_
  refine R_iconst 637 rfl dL_law_636 ?_
  refine R_iadd 638 rfl dL_law_637 ?_
  refine R_sld (i + 2) 639 rfl dL_law_638 (by omega) (by omega) hN3 ?_
  refine R_callV_I (M' := mX10_writer) 642 rfl dL_law_639 ml_L_70 kmX10_writer im_X10_writer se_X10_writer rfl ⟨by decide, rfl⟩ (x_writer _ _ hC (sc_rg _ _) (sc_rg _ _)) rfl rfl ⟨Nat.le_of_ble_eq_true rfl, Nat.le_of_ble_eq_true rfl⟩ (Nat.le_of_ble_eq_true rfl) ⟨Nat.le_of_ble_eq_true rfl, Nat.le_of_ble_eq_true rfl⟩ ?_
  rintro z639 m639 h639
  obtain ⟨e1, f1, c1⟩ := h639
  have r1 := hR.h f1 c1
  refine R_aload_n 643 rfl dL_law_642 rfl ?_
  refine R_aload_n 644 rfl dL_law_643 rfl ?_
  refine R_iload_n 645 rfl dL_law_644 rfl ?_
  refine R_iconst 646 rfl dL_law_645 ?_
  refine R_iadd 647 rfl dL_law_646 ?_
  refine R_sld (i + 1) 648 rfl dL_law_647 (by omega) (by omega) hN3 ?_
  refine R_aload_n 649 rfl dL_law_648 rfl ?_
  refine R_iload_n 650 rfl dL_law_649 rfl ?_
  refine R_iconst 651 rfl dL_law_650 ?_
  refine R_iadd 652 rfl dL_law_651 ?_
  refine R_sld (i + 2) 653 rfl dL_law_652 (by omega) (by omega) hN3 ?_
  refine R_callV_I (M' := mX11_writer) 656 rfl dL_law_653 ml_L_73 kmX11_writer im_X11_writer se_X11_writer rfl ⟨by decide, rfl⟩ (y_writer _ _ r1 (sc_rg _ _) (sc_rg _ _)) rfl rfl ⟨Nat.le_of_ble_eq_true rfl, Nat.le_of_ble_eq_true rfl⟩ (Nat.le_of_ble_eq_true rfl) ⟨Nat.le_of_ble_eq_true rfl, Nat.le_of_ble_eq_true rfl⟩ ?_
  rintro z653 m653 h653
  obtain ⟨e2, f2, r2⟩ := h653
  have c2 := c1.l f2
  refine R_icmp_same 1680 rfl dL_law_656 (e1.trans e2.symm) ?_
  exact nx _ _ _ _ _ _ _ _ _ c2 r2
theorem lw_apart (hΓ : GOk Γ) (i : Nat) (zi : Int) (hzi : zi = (i : Int)) (hlen : i + 7 ≤ gN Γ) (hN3 : gN Γ ≤ 3584) (hC : IC L B ch T F I S N m) (hR : IR L B ch T F I S N m) (nx : NX Γ zi) : R Γ mL room_1 113 5922 QW 113 5922 661 [some (vr 2000000), some (vr 0), some (vr 96), some (vi zi)] [] SH m := by
  refine R_aload_n 662 rfl dL_law_661 rfl ?_
  refine R_aload_n 663 rfl dL_law_662 rfl ?_
  refine R_iload_n 664 rfl dL_law_663 rfl ?_
  refine R_iconst 665 rfl dL_law_664 ?_
  refine R_iadd 666 rfl dL_law_665 ?_
  refine R_sld (i + 1) 667 rfl dL_law_666 (by omega) (by omega) hN3 ?_
  refine R_aload_n 668 rfl dL_law_667 rfl ?_
  refine R_iload_n 669 rfl dL_law_668 rfl ?_
  refine R_iconst 670 rfl dL_law_669 ?_
  refine R_iadd 671 rfl dL_law_670 ?_
  refine R_sld (i + 2) 672 rfl dL_law_671 (by omega) (by omega) hN3 ?_
  refine R_callV_I (M' := mX10_apart) 675 rfl dL_law_672 ml_L_74 kmX10_apart im_X10_apart se_X10_apart rfl ⟨by decide, rfl⟩ (x_apart _ _ hC (sc_rg _ _) (sc_rg _ _)) rfl rfl ⟨Nat.le_of_ble_eq_true rfl, Nat.le_of_ble_eq_true rfl⟩ (Nat.le_of_ble_eq_true rfl) ⟨Nat.le_of_ble_eq_true rfl, Nat.le_of_ble_eq_true rfl⟩ ?_
  rintro z672 m672 h672
  obtain ⟨e1, f1, c1⟩ := h672
  have r1 := hR.h f1 c1
  refine R_aload_n 676 rfl dL_law_675 rfl ?_
  refine R_aload_n 677 rfl dL_law_676 rfl ?_
  refine R_iload_n 678 rfl dL_law_677 rfl ?_
  refine R_iconst 679 rfl dL_law_678 ?_
  refine R_iadd 680 rfl dL_law_679 ?_
  refine R_sld (i + 1) 681 rfl dL_law_680 (by omega) (by omega) hN3 ?_
  refine R_aload_n 682 rfl dL_law_681 rfl ?_
  refine R_iload_n 683 rfl dL_law_682 rfl ?_
  refine R_iconst 684 rfl dL_law_683 ?_
  refine R_iadd 685 rfl dL_law_684 ?_
  refine R_sld (i + 2) 686 rfl dL_law_685 (by omega) (by omega) hN3 ?_
  refine R_callV_I (M' := mX11_apart) 689 rfl dL_law_686 ml_L_77 kmX11_apart im_X11_apart se_X11_apart rfl ⟨by decide, rfl⟩ (y_apart _ _ r1 (sc_rg _ _) (sc_rg _ _)) rfl rfl ⟨Nat.le_of_ble_eq_true rfl, Nat.le_of_ble_eq_true rfl⟩ (Nat.le_of_ble_eq_true rfl) ⟨Nat.le_of_ble_eq_true rfl, Nat.le_of_ble_eq_true rfl⟩ ?_
  rintro z686 m686 h686
  obtain ⟨e2, f2, r2⟩ := h686
  have c2 := c1.l f2
  refine R_icmp_same 1680 rfl dL_law_689 (e1.trans e2.symm) ?_
  exact nx _ _ _ _ _ _ _ _ _ c2 r2
theorem lw_tear (hΓ : GOk Γ) (i : Nat) (zi : Int) (hzi : zi = (i : Int)) (hlen : i + 7 ≤ gN Γ) (hN3 : gN Γ ≤ 3584) (hC : IC L B ch T F I S N m) (hR : IR L B ch T F I S N m) (nx : NX Γ zi) : R Γ mL room_1 113 5922 QW 113 5922 694 [some (vr 2000000), some (vr 0), some (vr 96), some (vi zi)] [] SH m := by
  refine R_aload_n 695 rfl dL_law_694 rfl ?_
  refine R_aload_n 696 rfl dL_law_695 rfl ?_
  refine R_iload_n 697 rfl dL_law_696 rfl ?_
  refine R_iconst 698 rfl dL_law_697 ?_
  refine R_iadd 699 rfl dL_law_698 ?_
  refine R_sld (i + 1) 700 rfl dL_law_699 (by omega) (by omega) hN3 ?_
  refine R_callV_I (M' := mX10_tear) 703 rfl dL_law_700 ml_L_78 kmX10_tear im_X10_tear se_X10_tear rfl ⟨by decide, rfl⟩ (x_tear _ hC (sc_rg _ _)) rfl rfl ⟨Nat.le_of_ble_eq_true rfl, Nat.le_of_ble_eq_true rfl⟩ (Nat.le_of_ble_eq_true rfl) ⟨Nat.le_of_ble_eq_true rfl, Nat.le_of_ble_eq_true rfl⟩ ?_
  rintro z700 m700 h700
  obtain ⟨e1, f1, c1⟩ := h700
  have r1 := hR.h f1 c1
  refine R_aload_n 704 rfl dL_law_703 rfl ?_
  refine R_aload_n 705 rfl dL_law_704 rfl ?_
  refine R_iload_n 706 rfl dL_law_705 rfl ?_
  refine R_iconst 707 rfl dL_law_706 ?_
  refine R_iadd 708 rfl dL_law_707 ?_
  refine R_sld (i + 1) 709 rfl dL_law_708 (by omega) (by omega) hN3 ?_
  refine R_callV_I (M' := mX11_tear) 712 rfl dL_law_709 ml_L_81 kmX11_tear im_X11_tear se_X11_tear rfl ⟨by decide, rfl⟩ (y_tear _ r1 (sc_rg _ _)) rfl rfl ⟨Nat.le_of_ble_eq_true rfl, Nat.le_of_ble_eq_true rfl⟩ (Nat.le_of_ble_eq_true rfl) ⟨Nat.le_of_ble_eq_true rfl, Nat.le_of_ble_eq_true rfl⟩ ?_
  rintro z709 m709 h709
  obtain ⟨e2, f2, r2⟩ := h709
  have c2 := c1.l f2
  refine R_icmp_same 1680 rfl dL_law_712 (e1.trans e2.symm) ?_
  exact nx _ _ _ _ _ _ _ _ _ c2 r2
theorem lw_choose (hΓ : GOk Γ) (i : Nat) (zi : Int) (hzi : zi = (i : Int)) (hlen : i + 7 ≤ gN Γ) (hN3 : gN Γ ≤ 3584) (hC : IC L B ch T F I S N m) (hR : IR L B ch T F I S N m) (nx : NX Γ zi) : R Γ mL room_1 113 5922 QW 113 5922 717 [some (vr 2000000), some (vr 0), some (vr 96), some (vi zi)] [] SH m := by
  refine R_aload_n 718 rfl dL_law_717 rfl ?_
  refine R_aload_n 719 rfl dL_law_718 rfl ?_
  refine R_iload_n 720 rfl dL_law_719 rfl ?_
  refine R_iconst 721 rfl dL_law_720 ?_
  refine R_iadd 722 rfl dL_law_721 ?_
  refine R_sld (i + 1) 723 rfl dL_law_722 (by omega) (by omega) hN3 ?_
  refine R_aload_n 724 rfl dL_law_723 rfl ?_
  refine R_iload_n 725 rfl dL_law_724 rfl ?_
  refine R_iconst 726 rfl dL_law_725 ?_
  refine R_iadd 727 rfl dL_law_726 ?_
  refine R_sld (i + 2) 728 rfl dL_law_727 (by omega) (by omega) hN3 ?_
  refine R_aload_n 729 rfl dL_law_728 rfl ?_
  refine R_iload_n 730 rfl dL_law_729 rfl ?_
  refine R_iconst 731 rfl dL_law_730 ?_
  refine R_iadd 732 rfl dL_law_731 ?_
  refine R_sld (i + 3) 733 rfl dL_law_732 (by omega) (by omega) hN3 ?_
  refine R_aload_n 734 rfl dL_law_733 rfl ?_
  refine R_iload_n 735 rfl dL_law_734 rfl ?_
  refine R_iconst 736 rfl dL_law_735 ?_
  refine R_iadd 737 rfl dL_law_736 ?_
  refine R_sld (i + 4) 738 rfl dL_law_737 (by omega) (by omega) hN3 ?_
  refine R_aload_n 739 rfl dL_law_738 rfl ?_
  refine R_iload_n 740 rfl dL_law_739 rfl ?_
  refine R_iconst 741 rfl dL_law_740 ?_
  refine R_iadd 742 rfl dL_law_741 ?_
  refine R_sld (i + 5) 743 rfl dL_law_742 (by omega) (by omega) hN3 ?_
  refine R_aload_n 744 rfl dL_law_743 rfl ?_
  refine R_iload_n 745 rfl dL_law_744 rfl ?_
  refine R_bipush 747 rfl dL_law_745 (by decide) ?_
  refine R_iadd 748 rfl dL_law_747 ?_
  refine R_sld (i + 6) 749 rfl dL_law_748 (by omega) (by omega) hN3 ?_
  refine R_callV_I (M' := mX10_choose) 752 rfl dL_law_749 ml_L_82 kmX10_choose im_X10_choose se_X10_choose rfl ⟨by decide, rfl⟩ (x_choose _ _ _ _ _ _ hC (sc_rg _ _) (sc_rg _ _) (sc_rg _ _) (sc_rg _ _) (sc_rg _ _) (sc_rg _ _)) rfl rfl ⟨Nat.le_of_ble_eq_true rfl, Nat.le_of_ble_eq_true rfl⟩ (Nat.le_of_ble_eq_true rfl) ⟨Nat.le_of_ble_eq_true rfl, Nat.le_of_ble_eq_true rfl⟩ ?_
  rintro z749 m749 h749
  obtain ⟨e1, f1, c1⟩ := h749
  have r1 := hR.h f1 c1
  refine R_aload_n 753 rfl dL_law_752 rfl ?_
  refine R_aload_n 754 rfl dL_law_753 rfl ?_
  refine R_iload_n 755 rfl dL_law_754 rfl ?_
  refine R_iconst 756 rfl dL_law_755 ?_
  refine R_iadd 757 rfl dL_law_756 ?_
  refine R_sld (i + 1) 758 rfl dL_law_757 (by omega) (by omega) hN3 ?_
  refine R_aload_n 759 rfl dL_law_758 rfl ?_
  refine R_iload_n 760 rfl dL_law_759 rfl ?_
  refine R_iconst 761 rfl dL_law_760 ?_
  refine R_iadd 762 rfl dL_law_761 ?_
  refine R_sld (i + 2) 763 rfl dL_law_762 (by omega) (by omega) hN3 ?_
  refine R_aload_n 764 rfl dL_law_763 rfl ?_
  refine R_iload_n 765 rfl dL_law_764 rfl ?_
  refine R_iconst 766 rfl dL_law_765 ?_
  refine R_iadd 767 rfl dL_law_766 ?_
  refine R_sld (i + 3) 768 rfl dL_law_767 (by omega) (by omega) hN3 ?_
  refine R_aload_n 769 rfl dL_law_768 rfl ?_
  refine R_iload_n 770 rfl dL_law_769 rfl ?_
  refine R_iconst 771 rfl dL_law_770 ?_
  refine R_iadd 772 rfl dL_law_771 ?_
  refine R_sld (i + 4) 773 rfl dL_law_772 (by omega) (by omega) hN3 ?_
  refine R_aload_n 774 rfl dL_law_773 rfl ?_
  refine R_iload_n 775 rfl dL_law_774 rfl ?_
  refine R_iconst 776 rfl dL_law_775 ?_
  refine R_iadd 777 rfl dL_law_776 ?_
  refine R_sld (i + 5) 778 rfl dL_law_777 (by omega) (by omega) hN3 ?_
  refine R_aload_n 779 rfl dL_law_778 rfl ?_
  refine R_iload_n 780 rfl dL_law_779 rfl ?_
  refine R_bipush 782 rfl dL_law_780 (by decide) ?_
  refine R_iadd 783 rfl dL_law_782 ?_
  refine R_sld (i + 6) 784 rfl dL_law_783 (by omega) (by omega) hN3 ?_
  refine R_callV_I (M' := mX11_choose) 787 rfl dL_law_784 ml_L_86 kmX11_choose im_X11_choose se_X11_choose rfl ⟨by decide, rfl⟩ (y_choose _ _ _ _ _ _ r1 (sc_rg _ _) (sc_rg _ _) (sc_rg _ _) (sc_rg _ _) (sc_rg _ _) (sc_rg _ _)) rfl rfl ⟨Nat.le_of_ble_eq_true rfl, Nat.le_of_ble_eq_true rfl⟩ (Nat.le_of_ble_eq_true rfl) ⟨Nat.le_of_ble_eq_true rfl, Nat.le_of_ble_eq_true rfl⟩ ?_
  rintro z784 m784 h784
  obtain ⟨e2, f2, r2⟩ := h784
  have c2 := c1.l f2
  refine R_icmp_same 1680 rfl dL_law_787 (e1.trans e2.symm) ?_
  exact nx _ _ _ _ _ _ _ _ _ c2 r2
theorem lw_many (hΓ : GOk Γ) (i : Nat) (zi : Int) (hzi : zi = (i : Int)) (hlen : i + 7 ≤ gN Γ) (hN3 : gN Γ ≤ 3584) (hC : IC L B ch T F I S N m) (hR : IR L B ch T F I S N m) (nx : NX Γ zi) : R Γ mL room_1 113 5922 QW 113 5922 792 [some (vr 2000000), some (vr 0), some (vr 96), some (vi zi)] [] SH m := by
  refine R_aload_n 793 rfl dL_law_792 rfl ?_
  refine R_aload_n 794 rfl dL_law_793 rfl ?_
  refine R_iload_n 795 rfl dL_law_794 rfl ?_
  refine R_iconst 796 rfl dL_law_795 ?_
  refine R_iadd 797 rfl dL_law_796 ?_
  refine R_sld (i + 1) 798 rfl dL_law_797 (by omega) (by omega) hN3 ?_
  refine R_aload_n 799 rfl dL_law_798 rfl ?_
  refine R_iload_n 800 rfl dL_law_799 rfl ?_
  refine R_iconst 801 rfl dL_law_800 ?_
  refine R_iadd 802 rfl dL_law_801 ?_
  refine R_sld (i + 2) 803 rfl dL_law_802 (by omega) (by omega) hN3 ?_
  refine R_callV_I (M' := mX10_many) 806 rfl dL_law_803 ml_L_87 kmX10_many im_X10_many se_X10_many rfl ⟨by decide, rfl⟩ (x_many _ _ hC (sc_rg _ _) (sc_rg _ _)) rfl rfl ⟨Nat.le_of_ble_eq_true rfl, Nat.le_of_ble_eq_true rfl⟩ (Nat.le_of_ble_eq_true rfl) ⟨Nat.le_of_ble_eq_true rfl, Nat.le_of_ble_eq_true rfl⟩ ?_
  rintro z803 m803 h803
  obtain ⟨e1, f1, c1⟩ := h803
  have r1 := hR.h f1 c1
  refine R_aload_n 807 rfl dL_law_806 rfl ?_
  refine R_aload_n 808 rfl dL_law_807 rfl ?_
  refine R_iload_n 809 rfl dL_law_808 rfl ?_
  refine R_iconst 810 rfl dL_law_809 ?_
  refine R_iadd 811 rfl dL_law_810 ?_
  refine R_sld (i + 1) 812 rfl dL_law_811 (by omega) (by omega) hN3 ?_
  refine R_aload_n 813 rfl dL_law_812 rfl ?_
  refine R_iload_n 814 rfl dL_law_813 rfl ?_
  refine R_iconst 815 rfl dL_law_814 ?_
  refine R_iadd 816 rfl dL_law_815 ?_
  refine R_sld (i + 2) 817 rfl dL_law_816 (by omega) (by omega) hN3 ?_
  refine R_callV_I (M' := mX11_many) 820 rfl dL_law_817 ml_L_90 kmX11_many im_X11_many se_X11_many rfl ⟨by decide, rfl⟩ (y_many _ _ r1 (sc_rg _ _) (sc_rg _ _)) rfl rfl ⟨Nat.le_of_ble_eq_true rfl, Nat.le_of_ble_eq_true rfl⟩ (Nat.le_of_ble_eq_true rfl) ⟨Nat.le_of_ble_eq_true rfl, Nat.le_of_ble_eq_true rfl⟩ ?_
  rintro z817 m817 h817
  obtain ⟨e2, f2, r2⟩ := h817
  have c2 := c1.l f2
  refine R_icmp_same 1680 rfl dL_law_820 (e1.trans e2.symm) ?_
  exact nx _ _ _ _ _ _ _ _ _ c2 r2
theorem lw_share (hΓ : GOk Γ) (i : Nat) (zi : Int) (hzi : zi = (i : Int)) (hlen : i + 7 ≤ gN Γ) (hN3 : gN Γ ≤ 3584) (hC : IC L B ch T F I S N m) (hR : IR L B ch T F I S N m) (nx : NX Γ zi) : R Γ mL room_1 113 5922 QW 113 5922 825 [some (vr 2000000), some (vr 0), some (vr 96), some (vi zi)] [] SH m := by
  refine R_aload_n 826 rfl dL_law_825 rfl ?_
  refine R_aload_n 827 rfl dL_law_826 rfl ?_
  refine R_iload_n 828 rfl dL_law_827 rfl ?_
  refine R_iconst 829 rfl dL_law_828 ?_
  refine R_iadd 830 rfl dL_law_829 ?_
  refine R_sld (i + 1) 831 rfl dL_law_830 (by omega) (by omega) hN3 ?_
  refine R_aload_n 832 rfl dL_law_831 rfl ?_
  refine R_iload_n 833 rfl dL_law_832 rfl ?_
  refine R_iconst 834 rfl dL_law_833 ?_
  refine R_iadd 835 rfl dL_law_834 ?_
  refine R_sld (i + 2) 836 rfl dL_law_835 (by omega) (by omega) hN3 ?_
  refine R_callV_I (M' := mX10_share) 839 rfl dL_law_836 ml_L_91 kmX10_share im_X10_share se_X10_share rfl ⟨by decide, rfl⟩ (x_share _ _ hC (sc_rg _ _) (sc_rg _ _)) rfl rfl ⟨Nat.le_of_ble_eq_true rfl, Nat.le_of_ble_eq_true rfl⟩ (Nat.le_of_ble_eq_true rfl) ⟨Nat.le_of_ble_eq_true rfl, Nat.le_of_ble_eq_true rfl⟩ ?_
  rintro z836 m836 h836
  obtain ⟨e1, f1, c1⟩ := h836
  have r1 := hR.h f1 c1
  refine R_aload_n 840 rfl dL_law_839 rfl ?_
  refine R_aload_n 841 rfl dL_law_840 rfl ?_
  refine R_iload_n 842 rfl dL_law_841 rfl ?_
  refine R_iconst 843 rfl dL_law_842 ?_
  refine R_iadd 844 rfl dL_law_843 ?_
  refine R_sld (i + 1) 845 rfl dL_law_844 (by omega) (by omega) hN3 ?_
  refine R_aload_n 846 rfl dL_law_845 rfl ?_
  refine R_iload_n 847 rfl dL_law_846 rfl ?_
  refine R_iconst 848 rfl dL_law_847 ?_
  refine R_iadd 849 rfl dL_law_848 ?_
  refine R_sld (i + 2) 850 rfl dL_law_849 (by omega) (by omega) hN3 ?_
  refine R_callV_I (M' := mX11_share) 853 rfl dL_law_850 ml_L_94 kmX11_share im_X11_share se_X11_share rfl ⟨by decide, rfl⟩ (y_share _ _ r1 (sc_rg _ _) (sc_rg _ _)) rfl rfl ⟨Nat.le_of_ble_eq_true rfl, Nat.le_of_ble_eq_true rfl⟩ (Nat.le_of_ble_eq_true rfl) ⟨Nat.le_of_ble_eq_true rfl, Nat.le_of_ble_eq_true rfl⟩ ?_
  rintro z850 m850 h850
  obtain ⟨e2, f2, r2⟩ := h850
  have c2 := c1.l f2
  refine R_icmp_same 1680 rfl dL_law_853 (e1.trans e2.symm) ?_
  exact nx _ _ _ _ _ _ _ _ _ c2 r2
theorem lw_best (hΓ : GOk Γ) (i : Nat) (zi : Int) (hzi : zi = (i : Int)) (hlen : i + 7 ≤ gN Γ) (hN3 : gN Γ ≤ 3584) (hC : IC L B ch T F I S N m) (hR : IR L B ch T F I S N m) (nx : NX Γ zi) : R Γ mL room_1 113 5922 QW 113 5922 858 [some (vr 2000000), some (vr 0), some (vr 96), some (vi zi)] [] SH m := by
  refine R_aload_n 859 rfl dL_law_858 rfl ?_
  refine R_aload_n 860 rfl dL_law_859 rfl ?_
  refine R_iload_n 861 rfl dL_law_860 rfl ?_
  refine R_iconst 862 rfl dL_law_861 ?_
  refine R_iadd 863 rfl dL_law_862 ?_
  refine R_sld (i + 1) 864 rfl dL_law_863 (by omega) (by omega) hN3 ?_
  refine R_aload_n 865 rfl dL_law_864 rfl ?_
  refine R_iload_n 866 rfl dL_law_865 rfl ?_
  refine R_iconst 867 rfl dL_law_866 ?_
  refine R_iadd 868 rfl dL_law_867 ?_
  refine R_sld (i + 2) 869 rfl dL_law_868 (by omega) (by omega) hN3 ?_
  refine R_aload_n 870 rfl dL_law_869 rfl ?_
  refine R_iload_n 871 rfl dL_law_870 rfl ?_
  refine R_iconst 872 rfl dL_law_871 ?_
  refine R_iadd 873 rfl dL_law_872 ?_
  refine R_sld (i + 3) 874 rfl dL_law_873 (by omega) (by omega) hN3 ?_
  refine R_aload_n 875 rfl dL_law_874 rfl ?_
  refine R_iload_n 876 rfl dL_law_875 rfl ?_
  refine R_iconst 877 rfl dL_law_876 ?_
  refine R_iadd 878 rfl dL_law_877 ?_
  refine R_sld (i + 4) 879 rfl dL_law_878 (by omega) (by omega) hN3 ?_
  refine R_callV_I (M' := mX10_best) 882 rfl dL_law_879 ml_L_95 kmX10_best im_X10_best se_X10_best rfl ⟨by decide, rfl⟩ (x_best _ _ _ _ hC (sc_rg _ _) (sc_rg _ _) (sc_rg _ _) (sc_rg _ _)) rfl rfl ⟨Nat.le_of_ble_eq_true rfl, Nat.le_of_ble_eq_true rfl⟩ (Nat.le_of_ble_eq_true rfl) ⟨Nat.le_of_ble_eq_true rfl, Nat.le_of_ble_eq_true rfl⟩ ?_
  rintro z879 m879 h879
  obtain ⟨e1, f1, c1⟩ := h879
  have r1 := hR.h f1 c1
  refine R_aload_n 883 rfl dL_law_882 rfl ?_
  refine R_aload_n 884 rfl dL_law_883 rfl ?_
  refine R_iload_n 885 rfl dL_law_884 rfl ?_
  refine R_iconst 886 rfl dL_law_885 ?_
  refine R_iadd 887 rfl dL_law_886 ?_
  refine R_sld (i + 1) 888 rfl dL_law_887 (by omega) (by omega) hN3 ?_
  refine R_aload_n 889 rfl dL_law_888 rfl ?_
  refine R_iload_n 890 rfl dL_law_889 rfl ?_
  refine R_iconst 891 rfl dL_law_890 ?_
  refine R_iadd 892 rfl dL_law_891 ?_
  refine R_sld (i + 2) 893 rfl dL_law_892 (by omega) (by omega) hN3 ?_
  refine R_aload_n 894 rfl dL_law_893 rfl ?_
  refine R_iload_n 895 rfl dL_law_894 rfl ?_
  refine R_iconst 896 rfl dL_law_895 ?_
  refine R_iadd 897 rfl dL_law_896 ?_
  refine R_sld (i + 3) 898 rfl dL_law_897 (by omega) (by omega) hN3 ?_
  refine R_aload_n 899 rfl dL_law_898 rfl ?_
  refine R_iload_n 900 rfl dL_law_899 rfl ?_
  refine R_iconst 901 rfl dL_law_900 ?_
  refine R_iadd 902 rfl dL_law_901 ?_
  refine R_sld (i + 4) 903 rfl dL_law_902 (by omega) (by omega) hN3 ?_
  refine R_callV_I (M' := mX11_best) 906 rfl dL_law_903 ml_L_98 kmX11_best im_X11_best se_X11_best rfl ⟨by decide, rfl⟩ (y_best _ _ _ _ r1 (sc_rg _ _) (sc_rg _ _) (sc_rg _ _) (sc_rg _ _)) rfl rfl ⟨Nat.le_of_ble_eq_true rfl, Nat.le_of_ble_eq_true rfl⟩ (Nat.le_of_ble_eq_true rfl) ⟨Nat.le_of_ble_eq_true rfl, Nat.le_of_ble_eq_true rfl⟩ ?_
  rintro z903 m903 h903
  obtain ⟨e2, f2, r2⟩ := h903
  have c2 := c1.l f2
  refine R_icmp_same 1680 rfl dL_law_906 (e1.trans e2.symm) ?_
  exact nx _ _ _ _ _ _ _ _ _ c2 r2
theorem lw_pairs (hΓ : GOk Γ) (i : Nat) (zi : Int) (hzi : zi = (i : Int)) (hlen : i + 7 ≤ gN Γ) (hN3 : gN Γ ≤ 3584) (hC : IC L B ch T F I S N m) (hR : IR L B ch T F I S N m) (nx : NX Γ zi) : R Γ mL room_1 113 5922 QW 113 5922 911 [some (vr 2000000), some (vr 0), some (vr 96), some (vi zi)] [] SH m := by
  refine R_aload_n 912 rfl dL_law_911 rfl ?_
  refine R_aload_n 913 rfl dL_law_912 rfl ?_
  refine R_iload_n 914 rfl dL_law_913 rfl ?_
  refine R_iconst 915 rfl dL_law_914 ?_
  refine R_iadd 916 rfl dL_law_915 ?_
  refine R_sld (i + 1) 917 rfl dL_law_916 (by omega) (by omega) hN3 ?_
  refine R_aload_n 918 rfl dL_law_917 rfl ?_
  refine R_iload_n 919 rfl dL_law_918 rfl ?_
  refine R_iconst 920 rfl dL_law_919 ?_
  refine R_iadd 921 rfl dL_law_920 ?_
  refine R_sld (i + 2) 922 rfl dL_law_921 (by omega) (by omega) hN3 ?_
  refine R_callV_I (M' := mX10_pairs) 925 rfl dL_law_922 ml_L_99 kmX10_pairs im_X10_pairs se_X10_pairs rfl ⟨by decide, rfl⟩ (x_pairs _ _ hC (sc_rg _ _) (sc_rg _ _)) rfl rfl ⟨Nat.le_of_ble_eq_true rfl, Nat.le_of_ble_eq_true rfl⟩ (Nat.le_of_ble_eq_true rfl) ⟨Nat.le_of_ble_eq_true rfl, Nat.le_of_ble_eq_true rfl⟩ ?_
  rintro z922 m922 h922
  obtain ⟨e1, f1, c1⟩ := h922
  have r1 := hR.h f1 c1
  refine R_aload_n 926 rfl dL_law_925 rfl ?_
  refine R_aload_n 927 rfl dL_law_926 rfl ?_
  refine R_iload_n 928 rfl dL_law_927 rfl ?_
  refine R_iconst 929 rfl dL_law_928 ?_
  refine R_iadd 930 rfl dL_law_929 ?_
  refine R_sld (i + 1) 931 rfl dL_law_930 (by omega) (by omega) hN3 ?_
  refine R_aload_n 932 rfl dL_law_931 rfl ?_
  refine R_iload_n 933 rfl dL_law_932 rfl ?_
  refine R_iconst 934 rfl dL_law_933 ?_
  refine R_iadd 935 rfl dL_law_934 ?_
  refine R_sld (i + 2) 936 rfl dL_law_935 (by omega) (by omega) hN3 ?_
  refine R_callV_I (M' := mX11_pairs) 939 rfl dL_law_936 ml_L_102 kmX11_pairs im_X11_pairs se_X11_pairs rfl ⟨by decide, rfl⟩ (y_pairs _ _ r1 (sc_rg _ _) (sc_rg _ _)) rfl rfl ⟨Nat.le_of_ble_eq_true rfl, Nat.le_of_ble_eq_true rfl⟩ (Nat.le_of_ble_eq_true rfl) ⟨Nat.le_of_ble_eq_true rfl, Nat.le_of_ble_eq_true rfl⟩ ?_
  rintro z936 m936 h936
  obtain ⟨e2, f2, r2⟩ := h936
  have c2 := c1.l f2
  refine R_icmp_same 1680 rfl dL_law_939 (e1.trans e2.symm) ?_
  exact nx _ _ _ _ _ _ _ _ _ c2 r2
theorem lw_spared (hΓ : GOk Γ) (i : Nat) (zi : Int) (hzi : zi = (i : Int)) (hlen : i + 7 ≤ gN Γ) (hN3 : gN Γ ≤ 3584) (hC : IC L B ch T F I S N m) (hR : IR L B ch T F I S N m) (nx : NX Γ zi) : R Γ mL room_1 113 5922 QW 113 5922 944 [some (vr 2000000), some (vr 0), some (vr 96), some (vi zi)] [] SH m := by
  refine R_aload_n 945 rfl dL_law_944 rfl ?_
  refine R_aload_n 946 rfl dL_law_945 rfl ?_
  refine R_iload_n 947 rfl dL_law_946 rfl ?_
  refine R_iconst 948 rfl dL_law_947 ?_
  refine R_iadd 949 rfl dL_law_948 ?_
  refine R_sld (i + 1) 950 rfl dL_law_949 (by omega) (by omega) hN3 ?_
  refine R_aload_n 951 rfl dL_law_950 rfl ?_
  refine R_iload_n 952 rfl dL_law_951 rfl ?_
  refine R_iconst 953 rfl dL_law_952 ?_
  refine R_iadd 954 rfl dL_law_953 ?_
  refine R_sld (i + 2) 955 rfl dL_law_954 (by omega) (by omega) hN3 ?_
  refine R_callV_I (M' := mX10_spared) 958 rfl dL_law_955 ml_L_103 kmX10_spared im_X10_spared se_X10_spared rfl ⟨by decide, rfl⟩ (x_spared _ _ hC (sc_rg _ _) (sc_rg _ _)) rfl rfl ⟨Nat.le_of_ble_eq_true rfl, Nat.le_of_ble_eq_true rfl⟩ (Nat.le_of_ble_eq_true rfl) ⟨Nat.le_of_ble_eq_true rfl, Nat.le_of_ble_eq_true rfl⟩ ?_
  rintro z955 m955 h955
  obtain ⟨e1, f1, c1⟩ := h955
  have r1 := hR.h f1 c1
  refine R_aload_n 959 rfl dL_law_958 rfl ?_
  refine R_aload_n 960 rfl dL_law_959 rfl ?_
  refine R_iload_n 961 rfl dL_law_960 rfl ?_
  refine R_iconst 962 rfl dL_law_961 ?_
  refine R_iadd 963 rfl dL_law_962 ?_
  refine R_sld (i + 1) 964 rfl dL_law_963 (by omega) (by omega) hN3 ?_
  refine R_aload_n 965 rfl dL_law_964 rfl ?_
  refine R_iload_n 966 rfl dL_law_965 rfl ?_
  refine R_iconst 967 rfl dL_law_966 ?_
  refine R_iadd 968 rfl dL_law_967 ?_
  refine R_sld (i + 2) 969 rfl dL_law_968 (by omega) (by omega) hN3 ?_
  refine R_callV_I (M' := mX11_spared) 972 rfl dL_law_969 ml_L_106 kmX11_spared im_X11_spared se_X11_spared rfl ⟨by decide, rfl⟩ (y_spared _ _ r1 (sc_rg _ _) (sc_rg _ _)) rfl rfl ⟨Nat.le_of_ble_eq_true rfl, Nat.le_of_ble_eq_true rfl⟩ (Nat.le_of_ble_eq_true rfl) ⟨Nat.le_of_ble_eq_true rfl, Nat.le_of_ble_eq_true rfl⟩ ?_
  rintro z969 m969 h969
  obtain ⟨e2, f2, r2⟩ := h969
  have c2 := c1.l f2
  refine R_icmp_same 1680 rfl dL_law_972 (e1.trans e2.symm) ?_
  exact nx _ _ _ _ _ _ _ _ _ c2 r2
theorem lw_learnt (hΓ : GOk Γ) (i : Nat) (zi : Int) (hzi : zi = (i : Int)) (hlen : i + 7 ≤ gN Γ) (hN3 : gN Γ ≤ 3584) (hC : IC L B ch T F I S N m) (hR : IR L B ch T F I S N m) (nx : NX Γ zi) : R Γ mL room_1 113 5922 QW 113 5922 977 [some (vr 2000000), some (vr 0), some (vr 96), some (vi zi)] [] SH m := by
  refine R_aload_n 978 rfl dL_law_977 rfl ?_
  refine R_aload_n 979 rfl dL_law_978 rfl ?_
  refine R_iload_n 980 rfl dL_law_979 rfl ?_
  refine R_iconst 981 rfl dL_law_980 ?_
  refine R_iadd 982 rfl dL_law_981 ?_
  refine R_sld (i + 1) 983 rfl dL_law_982 (by omega) (by omega) hN3 ?_
  refine R_aload_n 984 rfl dL_law_983 rfl ?_
  refine R_iload_n 985 rfl dL_law_984 rfl ?_
  refine R_iconst 986 rfl dL_law_985 ?_
  refine R_iadd 987 rfl dL_law_986 ?_
  refine R_sld (i + 2) 988 rfl dL_law_987 (by omega) (by omega) hN3 ?_
  refine R_aload_n 989 rfl dL_law_988 rfl ?_
  refine R_iload_n 990 rfl dL_law_989 rfl ?_
  refine R_iconst 991 rfl dL_law_990 ?_
  refine R_iadd 992 rfl dL_law_991 ?_
  refine R_sld (i + 3) 993 rfl dL_law_992 (by omega) (by omega) hN3 ?_
  refine R_aload_n 994 rfl dL_law_993 rfl ?_
  refine R_iload_n 995 rfl dL_law_994 rfl ?_
  refine R_iconst 996 rfl dL_law_995 ?_
  refine R_iadd 997 rfl dL_law_996 ?_
  refine R_sld (i + 4) 998 rfl dL_law_997 (by omega) (by omega) hN3 ?_
  refine R_callV_I (M' := mX10_learnt) 1001 rfl dL_law_998 ml_L_107 kmX10_learnt im_X10_learnt se_X10_learnt rfl ⟨by decide, rfl⟩ (x_learnt _ _ _ _ hC (sc_rg _ _) (sc_rg _ _) (sc_rg _ _) (sc_rg _ _)) rfl rfl ⟨Nat.le_of_ble_eq_true rfl, Nat.le_of_ble_eq_true rfl⟩ (Nat.le_of_ble_eq_true rfl) ⟨Nat.le_of_ble_eq_true rfl, Nat.le_of_ble_eq_true rfl⟩ ?_
  rintro z998 m998 h998
  obtain ⟨e1, f1, c1⟩ := h998
  have r1 := hR.h f1 c1
  refine R_aload_n 1002 rfl dL_law_1001 rfl ?_
  refine R_aload_n 1003 rfl dL_law_1002 rfl ?_
  refine R_iload_n 1004 rfl dL_law_1003 rfl ?_
  refine R_iconst 1005 rfl dL_law_1004 ?_
  refine R_iadd 1006 rfl dL_law_1005 ?_
  refine R_sld (i + 1) 1007 rfl dL_law_1006 (by omega) (by omega) hN3 ?_
  refine R_aload_n 1008 rfl dL_law_1007 rfl ?_
  refine R_iload_n 1009 rfl dL_law_1008 rfl ?_
  refine R_iconst 1010 rfl dL_law_1009 ?_
  refine R_iadd 1011 rfl dL_law_1010 ?_
  refine R_sld (i + 2) 1012 rfl dL_law_1011 (by omega) (by omega) hN3 ?_
  refine R_aload_n 1013 rfl dL_law_1012 rfl ?_
  refine R_iload_n 1014 rfl dL_law_1013 rfl ?_
  refine R_iconst 1015 rfl dL_law_1014 ?_
  refine R_iadd 1016 rfl dL_law_1015 ?_
  refine R_sld (i + 3) 1017 rfl dL_law_1016 (by omega) (by omega) hN3 ?_
  refine R_aload_n 1018 rfl dL_law_1017 rfl ?_
  refine R_iload_n 1019 rfl dL_law_1018 rfl ?_
  refine R_iconst 1020 rfl dL_law_1019 ?_
  refine R_iadd 1021 rfl dL_law_1020 ?_
  refine R_sld (i + 4) 1022 rfl dL_law_1021 (by omega) (by omega) hN3 ?_
  refine R_callV_I (M' := mX11_learnt) 1025 rfl dL_law_1022 ml_L_110 kmX11_learnt im_X11_learnt se_X11_learnt rfl ⟨by decide, rfl⟩ (y_learnt _ _ _ _ r1 (sc_rg _ _) (sc_rg _ _) (sc_rg _ _) (sc_rg _ _)) rfl rfl ⟨Nat.le_of_ble_eq_true rfl, Nat.le_of_ble_eq_true rfl⟩ (Nat.le_of_ble_eq_true rfl) ⟨Nat.le_of_ble_eq_true rfl, Nat.le_of_ble_eq_true rfl⟩ ?_
  rintro z1022 m1022 h1022
  obtain ⟨e2, f2, r2⟩ := h1022
  have c2 := c1.l f2
  refine R_icmp_same 1680 rfl dL_law_1025 (e1.trans e2.symm) ?_
  exact nx _ _ _ _ _ _ _ _ _ c2 r2
theorem lw_bounds (hΓ : GOk Γ) (i : Nat) (zi : Int) (hzi : zi = (i : Int)) (hlen : i + 7 ≤ gN Γ) (hN3 : gN Γ ≤ 3584) (hC : IC L B ch T F I S N m) (hR : IR L B ch T F I S N m) (nx : NX Γ zi) : R Γ mL room_1 113 5922 QW 113 5922 1030 [some (vr 2000000), some (vr 0), some (vr 96), some (vi zi)] [] SH m := by
  refine R_aload_n 1031 rfl dL_law_1030 rfl ?_
  refine R_aload_n 1032 rfl dL_law_1031 rfl ?_
  refine R_iload_n 1033 rfl dL_law_1032 rfl ?_
  refine R_iconst 1034 rfl dL_law_1033 ?_
  refine R_iadd 1035 rfl dL_law_1034 ?_
  refine R_sld (i + 1) 1036 rfl dL_law_1035 (by omega) (by omega) hN3 ?_
  refine R_aload_n 1037 rfl dL_law_1036 rfl ?_
  refine R_iload_n 1038 rfl dL_law_1037 rfl ?_
  refine R_iconst 1039 rfl dL_law_1038 ?_
  refine R_iadd 1040 rfl dL_law_1039 ?_
  refine R_sld (i + 2) 1041 rfl dL_law_1040 (by omega) (by omega) hN3 ?_
  refine R_aload_n 1042 rfl dL_law_1041 rfl ?_
  refine R_iload_n 1043 rfl dL_law_1042 rfl ?_
  refine R_iconst 1044 rfl dL_law_1043 ?_
  refine R_iadd 1045 rfl dL_law_1044 ?_
  refine R_sld (i + 3) 1046 rfl dL_law_1045 (by omega) (by omega) hN3 ?_
  refine R_aload_n 1047 rfl dL_law_1046 rfl ?_
  refine R_iload_n 1048 rfl dL_law_1047 rfl ?_
  refine R_iconst 1049 rfl dL_law_1048 ?_
  refine R_iadd 1050 rfl dL_law_1049 ?_
  refine R_sld (i + 4) 1051 rfl dL_law_1050 (by omega) (by omega) hN3 ?_
  refine R_callV_I (M' := mX10_bounds) 1054 rfl dL_law_1051 ml_L_111 kmX10_bounds im_X10_bounds se_X10_bounds rfl ⟨by decide, rfl⟩ (x_bounds _ _ _ _ hC (sc_rg _ _) (sc_rg _ _) (sc_rg _ _) (sc_rg _ _)) rfl rfl ⟨Nat.le_of_ble_eq_true rfl, Nat.le_of_ble_eq_true rfl⟩ (Nat.le_of_ble_eq_true rfl) ⟨Nat.le_of_ble_eq_true rfl, Nat.le_of_ble_eq_true rfl⟩ ?_
  rintro z1051 m1051 h1051
  obtain ⟨e1, f1, c1⟩ := h1051
  have r1 := hR.h f1 c1
  refine R_aload_n 1055 rfl dL_law_1054 rfl ?_
  refine R_aload_n 1056 rfl dL_law_1055 rfl ?_
  refine R_iload_n 1057 rfl dL_law_1056 rfl ?_
  refine R_iconst 1058 rfl dL_law_1057 ?_
  refine R_iadd 1059 rfl dL_law_1058 ?_
  refine R_sld (i + 1) 1060 rfl dL_law_1059 (by omega) (by omega) hN3 ?_
  refine R_aload_n 1061 rfl dL_law_1060 rfl ?_
  refine R_iload_n 1062 rfl dL_law_1061 rfl ?_
  refine R_iconst 1063 rfl dL_law_1062 ?_
  refine R_iadd 1064 rfl dL_law_1063 ?_
  refine R_sld (i + 2) 1065 rfl dL_law_1064 (by omega) (by omega) hN3 ?_
  refine R_aload_n 1066 rfl dL_law_1065 rfl ?_
  refine R_iload_n 1067 rfl dL_law_1066 rfl ?_
  refine R_iconst 1068 rfl dL_law_1067 ?_
  refine R_iadd 1069 rfl dL_law_1068 ?_
  refine R_sld (i + 3) 1070 rfl dL_law_1069 (by omega) (by omega) hN3 ?_
  refine R_aload_n 1071 rfl dL_law_1070 rfl ?_
  refine R_iload_n 1072 rfl dL_law_1071 rfl ?_
  refine R_iconst 1073 rfl dL_law_1072 ?_
  refine R_iadd 1074 rfl dL_law_1073 ?_
  refine R_sld (i + 4) 1075 rfl dL_law_1074 (by omega) (by omega) hN3 ?_
  refine R_callV_I (M' := mX11_bounds) 1078 rfl dL_law_1075 ml_L_114 kmX11_bounds im_X11_bounds se_X11_bounds rfl ⟨by decide, rfl⟩ (y_bounds _ _ _ _ r1 (sc_rg _ _) (sc_rg _ _) (sc_rg _ _) (sc_rg _ _)) rfl rfl ⟨Nat.le_of_ble_eq_true rfl, Nat.le_of_ble_eq_true rfl⟩ (Nat.le_of_ble_eq_true rfl) ⟨Nat.le_of_ble_eq_true rfl, Nat.le_of_ble_eq_true rfl⟩ ?_
  rintro z1075 m1075 h1075
  obtain ⟨e2, f2, r2⟩ := h1075
  have c2 := c1.l f2
  refine R_icmp_same 1680 rfl dL_law_1078 (e1.trans e2.symm) ?_
  exact nx _ _ _ _ _ _ _ _ _ c2 r2
theorem lw_tens (hΓ : GOk Γ) (i : Nat) (zi : Int) (hzi : zi = (i : Int)) (hlen : i + 7 ≤ gN Γ) (hN3 : gN Γ ≤ 3584) (hC : IC L B ch T F I S N m) (hR : IR L B ch T F I S N m) (nx : NX Γ zi) : R Γ mL room_1 113 5922 QW 113 5922 1083 [some (vr 2000000), some (vr 0), some (vr 96), some (vi zi)] [] SH m := by
  refine R_aload_n 1084 rfl dL_law_1083 rfl ?_
  refine R_aload_n 1085 rfl dL_law_1084 rfl ?_
  refine R_iload_n 1086 rfl dL_law_1085 rfl ?_
  refine R_iconst 1087 rfl dL_law_1086 ?_
  refine R_iadd 1088 rfl dL_law_1087 ?_
  refine R_sld (i + 1) 1089 rfl dL_law_1088 (by omega) (by omega) hN3 ?_
  refine R_aload_n 1090 rfl dL_law_1089 rfl ?_
  refine R_iload_n 1091 rfl dL_law_1090 rfl ?_
  refine R_iconst 1092 rfl dL_law_1091 ?_
  refine R_iadd 1093 rfl dL_law_1092 ?_
  refine R_sld (i + 2) 1094 rfl dL_law_1093 (by omega) (by omega) hN3 ?_
  refine R_callV_I (M' := mX10_tens) 1097 rfl dL_law_1094 ml_L_115 kmX10_tens im_X10_tens se_X10_tens rfl ⟨by decide, rfl⟩ (x_tens _ _ hC (sc_rg _ _) (sc_rg _ _)) rfl rfl ⟨Nat.le_of_ble_eq_true rfl, Nat.le_of_ble_eq_true rfl⟩ (Nat.le_of_ble_eq_true rfl) ⟨Nat.le_of_ble_eq_true rfl, Nat.le_of_ble_eq_true rfl⟩ ?_
  rintro z1094 m1094 h1094
  obtain ⟨e1, f1, c1⟩ := h1094
  have r1 := hR.h f1 c1
  refine R_aload_n 1098 rfl dL_law_1097 rfl ?_
  refine R_aload_n 1099 rfl dL_law_1098 rfl ?_
  refine R_iload_n 1100 rfl dL_law_1099 rfl ?_
  refine R_iconst 1101 rfl dL_law_1100 ?_
  refine R_iadd 1102 rfl dL_law_1101 ?_
  refine R_sld (i + 1) 1103 rfl dL_law_1102 (by omega) (by omega) hN3 ?_
  refine R_aload_n 1104 rfl dL_law_1103 rfl ?_
  refine R_iload_n 1105 rfl dL_law_1104 rfl ?_
  refine R_iconst 1106 rfl dL_law_1105 ?_
  refine R_iadd 1107 rfl dL_law_1106 ?_
  refine R_sld (i + 2) 1108 rfl dL_law_1107 (by omega) (by omega) hN3 ?_
  refine R_callV_I (M' := mX11_tens) 1111 rfl dL_law_1108 ml_L_118 kmX11_tens im_X11_tens se_X11_tens rfl ⟨by decide, rfl⟩ (y_tens _ _ r1 (sc_rg _ _) (sc_rg _ _)) rfl rfl ⟨Nat.le_of_ble_eq_true rfl, Nat.le_of_ble_eq_true rfl⟩ (Nat.le_of_ble_eq_true rfl) ⟨Nat.le_of_ble_eq_true rfl, Nat.le_of_ble_eq_true rfl⟩ ?_
  rintro z1108 m1108 h1108
  obtain ⟨e2, f2, r2⟩ := h1108
  have c2 := c1.l f2
  refine R_icmp_same 1680 rfl dL_law_1111 (e1.trans e2.symm) ?_
  exact nx _ _ _ _ _ _ _ _ _ c2 r2
theorem lw_span (hΓ : GOk Γ) (i : Nat) (zi : Int) (hzi : zi = (i : Int)) (hlen : i + 7 ≤ gN Γ) (hN3 : gN Γ ≤ 3584) (hC : IC L B ch T F I S N m) (hR : IR L B ch T F I S N m) (nx : NX Γ zi) : R Γ mL room_1 113 5922 QW 113 5922 1116 [some (vr 2000000), some (vr 0), some (vr 96), some (vi zi)] [] SH m := by
  refine R_aload_n 1117 rfl dL_law_1116 rfl ?_
  refine R_aload_n 1118 rfl dL_law_1117 rfl ?_
  refine R_iload_n 1119 rfl dL_law_1118 rfl ?_
  refine R_iconst 1120 rfl dL_law_1119 ?_
  refine R_iadd 1121 rfl dL_law_1120 ?_
  refine R_sld (i + 1) 1122 rfl dL_law_1121 (by omega) (by omega) hN3 ?_
  refine R_aload_n 1123 rfl dL_law_1122 rfl ?_
  refine R_iload_n 1124 rfl dL_law_1123 rfl ?_
  refine R_iconst 1125 rfl dL_law_1124 ?_
  refine R_iadd 1126 rfl dL_law_1125 ?_
  refine R_sld (i + 2) 1127 rfl dL_law_1126 (by omega) (by omega) hN3 ?_
  refine R_callV_L (M' := mX10_span) 1130 rfl dL_law_1127 ml_L_119 kmX10_span im_X10_span se_X10_span rfl ⟨by decide, rfl⟩ (x_span _ _ hC (sc_rg _ _) (sc_rg _ _)) rfl rfl ⟨Nat.le_of_ble_eq_true rfl, Nat.le_of_ble_eq_true rfl⟩ (Nat.le_of_ble_eq_true rfl) ⟨Nat.le_of_ble_eq_true rfl, Nat.le_of_ble_eq_true rfl⟩ ?_
  rintro z1127 m1127 h1127
  obtain ⟨e1, f1, c1⟩ := h1127
  have r1 := hR.h f1 c1
  refine R_aload_n 1131 rfl dL_law_1130 rfl ?_
  refine R_aload_n 1132 rfl dL_law_1131 rfl ?_
  refine R_iload_n 1133 rfl dL_law_1132 rfl ?_
  refine R_iconst 1134 rfl dL_law_1133 ?_
  refine R_iadd 1135 rfl dL_law_1134 ?_
  refine R_sld (i + 1) 1136 rfl dL_law_1135 (by omega) (by omega) hN3 ?_
  refine R_aload_n 1137 rfl dL_law_1136 rfl ?_
  refine R_iload_n 1138 rfl dL_law_1137 rfl ?_
  refine R_iconst 1139 rfl dL_law_1138 ?_
  refine R_iadd 1140 rfl dL_law_1139 ?_
  refine R_sld (i + 2) 1141 rfl dL_law_1140 (by omega) (by omega) hN3 ?_
  refine R_callV_L (M' := mX11_span) 1144 rfl dL_law_1141 ml_L_123 kmX11_span im_X11_span se_X11_span rfl ⟨by decide, rfl⟩ (y_span _ _ r1 (sc_rg _ _) (sc_rg _ _)) rfl rfl ⟨Nat.le_of_ble_eq_true rfl, Nat.le_of_ble_eq_true rfl⟩ (Nat.le_of_ble_eq_true rfl) ⟨Nat.le_of_ble_eq_true rfl, Nat.le_of_ble_eq_true rfl⟩ ?_
  rintro z1141 m1141 h1141
  obtain ⟨e2, f2, r2⟩ := h1141
  have c2 := c1.l f2
  refine R_lif_same 1145 1680 rfl rfl dL_law_1144 dL_law_1145 (e1.trans e2.symm) ?_
  exact nx _ _ _ _ _ _ _ _ _ c2 r2
theorem lw_next (hΓ : GOk Γ) (i : Nat) (zi : Int) (hzi : zi = (i : Int)) (hlen : i + 7 ≤ gN Γ) (hN3 : gN Γ ≤ 3584) (hC : IC L B ch T F I S N m) (hR : IR L B ch T F I S N m) (nx : NX Γ zi) : R Γ mL room_1 113 5922 QW 113 5922 1150 [some (vr 2000000), some (vr 0), some (vr 96), some (vi zi)] [] SH m := by
  refine R_aload_n 1151 rfl dL_law_1150 rfl ?_
  refine R_aload_n 1152 rfl dL_law_1151 rfl ?_
  refine R_iload_n 1153 rfl dL_law_1152 rfl ?_
  refine R_iconst 1154 rfl dL_law_1153 ?_
  refine R_iadd 1155 rfl dL_law_1154 ?_
  refine R_sld (i + 1) 1156 rfl dL_law_1155 (by omega) (by omega) hN3 ?_
  refine R_callV_I (M' := mX10_next) 1159 rfl dL_law_1156 ml_L_124 kmX10_next im_X10_next se_X10_next rfl ⟨by decide, rfl⟩ (x_next _ hC (sc_rg _ _)) rfl rfl ⟨Nat.le_of_ble_eq_true rfl, Nat.le_of_ble_eq_true rfl⟩ (Nat.le_of_ble_eq_true rfl) ⟨Nat.le_of_ble_eq_true rfl, Nat.le_of_ble_eq_true rfl⟩ ?_
  rintro z1156 m1156 h1156
  obtain ⟨e1, f1, c1⟩ := h1156
  have r1 := hR.h f1 c1
  refine R_aload_n 1160 rfl dL_law_1159 rfl ?_
  refine R_aload_n 1161 rfl dL_law_1160 rfl ?_
  refine R_iload_n 1162 rfl dL_law_1161 rfl ?_
  refine R_iconst 1163 rfl dL_law_1162 ?_
  refine R_iadd 1164 rfl dL_law_1163 ?_
  refine R_sld (i + 1) 1165 rfl dL_law_1164 (by omega) (by omega) hN3 ?_
  refine R_callV_I (M' := mX11_next) 1168 rfl dL_law_1165 ml_L_127 kmX11_next im_X11_next se_X11_next rfl ⟨by decide, rfl⟩ (y_next _ r1 (sc_rg _ _)) rfl rfl ⟨Nat.le_of_ble_eq_true rfl, Nat.le_of_ble_eq_true rfl⟩ (Nat.le_of_ble_eq_true rfl) ⟨Nat.le_of_ble_eq_true rfl, Nat.le_of_ble_eq_true rfl⟩ ?_
  rintro z1165 m1165 h1165
  obtain ⟨e2, f2, r2⟩ := h1165
  have c2 := c1.l f2
  refine R_icmp_same 1680 rfl dL_law_1168 (e1.trans e2.symm) ?_
  exact nx _ _ _ _ _ _ _ _ _ c2 r2
theorem lw_enough (hΓ : GOk Γ) (i : Nat) (zi : Int) (hzi : zi = (i : Int)) (hlen : i + 7 ≤ gN Γ) (hN3 : gN Γ ≤ 3584) (hC : IC L B ch T F I S N m) (hR : IR L B ch T F I S N m) (nx : NX Γ zi) : R Γ mL room_1 113 5922 QW 113 5922 1173 [some (vr 2000000), some (vr 0), some (vr 96), some (vi zi)] [] SH m := by
  refine R_aload_n 1174 rfl dL_law_1173 rfl ?_
  refine R_aload_n 1175 rfl dL_law_1174 rfl ?_
  refine R_iload_n 1176 rfl dL_law_1175 rfl ?_
  refine R_iconst 1177 rfl dL_law_1176 ?_
  refine R_iadd 1178 rfl dL_law_1177 ?_
  refine R_sld (i + 1) 1179 rfl dL_law_1178 (by omega) (by omega) hN3 ?_
  refine R_aload_n 1180 rfl dL_law_1179 rfl ?_
  refine R_iload_n 1181 rfl dL_law_1180 rfl ?_
  refine R_iconst 1182 rfl dL_law_1181 ?_
  refine R_iadd 1183 rfl dL_law_1182 ?_
  refine R_sld (i + 2) 1184 rfl dL_law_1183 (by omega) (by omega) hN3 ?_
  refine R_aload_n 1185 rfl dL_law_1184 rfl ?_
  refine R_iload_n 1186 rfl dL_law_1185 rfl ?_
  refine R_iconst 1187 rfl dL_law_1186 ?_
  refine R_iadd 1188 rfl dL_law_1187 ?_
  refine R_sld (i + 3) 1189 rfl dL_law_1188 (by omega) (by omega) hN3 ?_
  refine R_callV_I (M' := mX10_enough) 1192 rfl dL_law_1189 ml_L_128 kmX10_enough im_X10_enough se_X10_enough rfl ⟨by decide, rfl⟩ (x_enough _ _ _ hC (sc_rg _ _) (sc_rg _ _) (sc_rg _ _)) rfl rfl ⟨Nat.le_of_ble_eq_true rfl, Nat.le_of_ble_eq_true rfl⟩ (Nat.le_of_ble_eq_true rfl) ⟨Nat.le_of_ble_eq_true rfl, Nat.le_of_ble_eq_true rfl⟩ ?_
  rintro z1189 m1189 h1189
  obtain ⟨e1, f1, c1⟩ := h1189
  have r1 := hR.h f1 c1
  refine R_aload_n 1193 rfl dL_law_1192 rfl ?_
  refine R_aload_n 1194 rfl dL_law_1193 rfl ?_
  refine R_iload_n 1195 rfl dL_law_1194 rfl ?_
  refine R_iconst 1196 rfl dL_law_1195 ?_
  refine R_iadd 1197 rfl dL_law_1196 ?_
  refine R_sld (i + 1) 1198 rfl dL_law_1197 (by omega) (by omega) hN3 ?_
  refine R_aload_n 1199 rfl dL_law_1198 rfl ?_
  refine R_iload_n 1200 rfl dL_law_1199 rfl ?_
  refine R_iconst 1201 rfl dL_law_1200 ?_
  refine R_iadd 1202 rfl dL_law_1201 ?_
  refine R_sld (i + 2) 1203 rfl dL_law_1202 (by omega) (by omega) hN3 ?_
  refine R_aload_n 1204 rfl dL_law_1203 rfl ?_
  refine R_iload_n 1205 rfl dL_law_1204 rfl ?_
  refine R_iconst 1206 rfl dL_law_1205 ?_
  refine R_iadd 1207 rfl dL_law_1206 ?_
  refine R_sld (i + 3) 1208 rfl dL_law_1207 (by omega) (by omega) hN3 ?_
  refine R_callV_I (M' := mX11_enough) 1211 rfl dL_law_1208 ml_L_131 kmX11_enough im_X11_enough se_X11_enough rfl ⟨by decide, rfl⟩ (y_enough _ _ _ r1 (sc_rg _ _) (sc_rg _ _) (sc_rg _ _)) rfl rfl ⟨Nat.le_of_ble_eq_true rfl, Nat.le_of_ble_eq_true rfl⟩ (Nat.le_of_ble_eq_true rfl) ⟨Nat.le_of_ble_eq_true rfl, Nat.le_of_ble_eq_true rfl⟩ ?_
  rintro z1208 m1208 h1208
  obtain ⟨e2, f2, r2⟩ := h1208
  have c2 := c1.l f2
  refine R_icmp_same 1680 rfl dL_law_1211 (e1.trans e2.symm) ?_
  exact nx _ _ _ _ _ _ _ _ _ c2 r2
theorem lw_reading (hΓ : GOk Γ) (i : Nat) (zi : Int) (hzi : zi = (i : Int)) (hlen : i + 7 ≤ gN Γ) (hN3 : gN Γ ≤ 3584) (hC : IC L B ch T F I S N m) (hR : IR L B ch T F I S N m) (nx : NX Γ zi) : R Γ mL room_1 113 5922 QW 113 5922 1216 [some (vr 2000000), some (vr 0), some (vr 96), some (vi zi)] [] SH m := by
  refine R_aload_n 1217 rfl dL_law_1216 rfl ?_
  refine R_aload_n 1218 rfl dL_law_1217 rfl ?_
  refine R_iload_n 1219 rfl dL_law_1218 rfl ?_
  refine R_iconst 1220 rfl dL_law_1219 ?_
  refine R_iadd 1221 rfl dL_law_1220 ?_
  refine R_sld (i + 1) 1222 rfl dL_law_1221 (by omega) (by omega) hN3 ?_
  refine R_aload_n 1223 rfl dL_law_1222 rfl ?_
  refine R_iload_n 1224 rfl dL_law_1223 rfl ?_
  refine R_iconst 1225 rfl dL_law_1224 ?_
  refine R_iadd 1226 rfl dL_law_1225 ?_
  refine R_sld (i + 2) 1227 rfl dL_law_1226 (by omega) (by omega) hN3 ?_
  refine R_callV_L (M' := mX10_reading) 1230 rfl dL_law_1227 ml_L_132 kmX10_reading im_X10_reading se_X10_reading rfl ⟨by decide, rfl⟩ (x_reading _ _ hC (sc_rg _ _) (sc_rg _ _)) rfl rfl ⟨Nat.le_of_ble_eq_true rfl, Nat.le_of_ble_eq_true rfl⟩ (Nat.le_of_ble_eq_true rfl) ⟨Nat.le_of_ble_eq_true rfl, Nat.le_of_ble_eq_true rfl⟩ ?_
  rintro z1227 m1227 h1227
  obtain ⟨e1, f1, c1⟩ := h1227
  have r1 := hR.h f1 c1
  refine R_aload_n 1231 rfl dL_law_1230 rfl ?_
  refine R_aload_n 1232 rfl dL_law_1231 rfl ?_
  refine R_iload_n 1233 rfl dL_law_1232 rfl ?_
  refine R_iconst 1234 rfl dL_law_1233 ?_
  refine R_iadd 1235 rfl dL_law_1234 ?_
  refine R_sld (i + 1) 1236 rfl dL_law_1235 (by omega) (by omega) hN3 ?_
  refine R_aload_n 1237 rfl dL_law_1236 rfl ?_
  refine R_iload_n 1238 rfl dL_law_1237 rfl ?_
  refine R_iconst 1239 rfl dL_law_1238 ?_
  refine R_iadd 1240 rfl dL_law_1239 ?_
  refine R_sld (i + 2) 1241 rfl dL_law_1240 (by omega) (by omega) hN3 ?_
  refine R_callV_L (M' := mX11_reading) 1244 rfl dL_law_1241 ml_L_135 kmX11_reading im_X11_reading se_X11_reading rfl ⟨by decide, rfl⟩ (y_reading _ _ r1 (sc_rg _ _) (sc_rg _ _)) rfl rfl ⟨Nat.le_of_ble_eq_true rfl, Nat.le_of_ble_eq_true rfl⟩ (Nat.le_of_ble_eq_true rfl) ⟨Nat.le_of_ble_eq_true rfl, Nat.le_of_ble_eq_true rfl⟩ ?_
  rintro z1241 m1241 h1241
  obtain ⟨e2, f2, r2⟩ := h1241
  have c2 := c1.l f2
  refine R_lif_same 1245 1680 rfl rfl dL_law_1244 dL_law_1245 (e1.trans e2.symm) ?_
  exact nx _ _ _ _ _ _ _ _ _ c2 r2
theorem lw_unwed (hΓ : GOk Γ) (i : Nat) (zi : Int) (hzi : zi = (i : Int)) (hlen : i + 7 ≤ gN Γ) (hN3 : gN Γ ≤ 3584) (hC : IC L B ch T F I S N m) (hR : IR L B ch T F I S N m) (nx : NX Γ zi) : R Γ mL room_1 113 5922 QW 113 5922 1250 [some (vr 2000000), some (vr 0), some (vr 96), some (vi zi)] [] SH m := by
  refine R_aload_n 1251 rfl dL_law_1250 rfl ?_
  refine R_aload_n 1252 rfl dL_law_1251 rfl ?_
  refine R_iload_n 1253 rfl dL_law_1252 rfl ?_
  refine R_iconst 1254 rfl dL_law_1253 ?_
  refine R_iadd 1255 rfl dL_law_1254 ?_
  refine R_sld (i + 1) 1256 rfl dL_law_1255 (by omega) (by omega) hN3 ?_
  refine R_aload_n 1257 rfl dL_law_1256 rfl ?_
  refine R_iload_n 1258 rfl dL_law_1257 rfl ?_
  refine R_iconst 1259 rfl dL_law_1258 ?_
  refine R_iadd 1260 rfl dL_law_1259 ?_
  refine R_sld (i + 2) 1261 rfl dL_law_1260 (by omega) (by omega) hN3 ?_
  refine R_callV_I (M' := mX10_unwed) 1264 rfl dL_law_1261 ml_L_136 kmX10_unwed im_X10_unwed se_X10_unwed rfl ⟨by decide, rfl⟩ (x_unwed _ _ hC (sc_rg _ _) (sc_rg _ _)) rfl rfl ⟨Nat.le_of_ble_eq_true rfl, Nat.le_of_ble_eq_true rfl⟩ (Nat.le_of_ble_eq_true rfl) ⟨Nat.le_of_ble_eq_true rfl, Nat.le_of_ble_eq_true rfl⟩ ?_
  rintro z1261 m1261 h1261
  obtain ⟨e1, f1, c1⟩ := h1261
  have r1 := hR.h f1 c1
  refine R_aload_n 1265 rfl dL_law_1264 rfl ?_
  refine R_aload_n 1266 rfl dL_law_1265 rfl ?_
  refine R_iload_n 1267 rfl dL_law_1266 rfl ?_
  refine R_iconst 1268 rfl dL_law_1267 ?_
  refine R_iadd 1269 rfl dL_law_1268 ?_
  refine R_sld (i + 1) 1270 rfl dL_law_1269 (by omega) (by omega) hN3 ?_
  refine R_aload_n 1271 rfl dL_law_1270 rfl ?_
  refine R_iload_n 1272 rfl dL_law_1271 rfl ?_
  refine R_iconst 1273 rfl dL_law_1272 ?_
  refine R_iadd 1274 rfl dL_law_1273 ?_
  refine R_sld (i + 2) 1275 rfl dL_law_1274 (by omega) (by omega) hN3 ?_
  refine R_callV_I (M' := mX11_unwed) 1278 rfl dL_law_1275 ml_L_139 kmX11_unwed im_X11_unwed se_X11_unwed rfl ⟨by decide, rfl⟩ (y_unwed _ _ r1 (sc_rg _ _) (sc_rg _ _)) rfl rfl ⟨Nat.le_of_ble_eq_true rfl, Nat.le_of_ble_eq_true rfl⟩ (Nat.le_of_ble_eq_true rfl) ⟨Nat.le_of_ble_eq_true rfl, Nat.le_of_ble_eq_true rfl⟩ ?_
  rintro z1275 m1275 h1275
  obtain ⟨e2, f2, r2⟩ := h1275
  have c2 := c1.l f2
  refine R_icmp_same 1680 rfl dL_law_1278 (e1.trans e2.symm) ?_
  exact nx _ _ _ _ _ _ _ _ _ c2 r2
theorem lw_parts (hΓ : GOk Γ) (i : Nat) (zi : Int) (hzi : zi = (i : Int)) (hlen : i + 7 ≤ gN Γ) (hN3 : gN Γ ≤ 3584) (hC : IC L B ch T F I S N m) (hR : IR L B ch T F I S N m) (nx : NX Γ zi) : R Γ mL room_1 113 5922 QW 113 5922 1283 [some (vr 2000000), some (vr 0), some (vr 96), some (vi zi)] [] SH m := by
  refine R_aload_n 1284 rfl dL_law_1283 rfl ?_
  refine R_aload_n 1285 rfl dL_law_1284 rfl ?_
  refine R_iload_n 1286 rfl dL_law_1285 rfl ?_
  refine R_iconst 1287 rfl dL_law_1286 ?_
  refine R_iadd 1288 rfl dL_law_1287 ?_
  refine R_sld (i + 1) 1289 rfl dL_law_1288 (by omega) (by omega) hN3 ?_
  refine R_aload_n 1290 rfl dL_law_1289 rfl ?_
  refine R_iload_n 1291 rfl dL_law_1290 rfl ?_
  refine R_iconst 1292 rfl dL_law_1291 ?_
  refine R_iadd 1293 rfl dL_law_1292 ?_
  refine R_sld (i + 2) 1294 rfl dL_law_1293 (by omega) (by omega) hN3 ?_
  refine R_callV_L (M' := mX10_parts) 1297 rfl dL_law_1294 ml_L_140 kmX10_parts im_X10_parts se_X10_parts rfl ⟨by decide, rfl⟩ (x_parts _ _ hC (sc_rg _ _) (sc_rg _ _)) rfl rfl ⟨Nat.le_of_ble_eq_true rfl, Nat.le_of_ble_eq_true rfl⟩ (Nat.le_of_ble_eq_true rfl) ⟨Nat.le_of_ble_eq_true rfl, Nat.le_of_ble_eq_true rfl⟩ ?_
  rintro z1294 m1294 h1294
  obtain ⟨e1, f1, c1⟩ := h1294
  have r1 := hR.h f1 c1
  refine R_aload_n 1298 rfl dL_law_1297 rfl ?_
  refine R_aload_n 1299 rfl dL_law_1298 rfl ?_
  refine R_iload_n 1300 rfl dL_law_1299 rfl ?_
  refine R_iconst 1301 rfl dL_law_1300 ?_
  refine R_iadd 1302 rfl dL_law_1301 ?_
  refine R_sld (i + 1) 1303 rfl dL_law_1302 (by omega) (by omega) hN3 ?_
  refine R_aload_n 1304 rfl dL_law_1303 rfl ?_
  refine R_iload_n 1305 rfl dL_law_1304 rfl ?_
  refine R_iconst 1306 rfl dL_law_1305 ?_
  refine R_iadd 1307 rfl dL_law_1306 ?_
  refine R_sld (i + 2) 1308 rfl dL_law_1307 (by omega) (by omega) hN3 ?_
  refine R_callV_L (M' := mX11_parts) 1311 rfl dL_law_1308 ml_L_143 kmX11_parts im_X11_parts se_X11_parts rfl ⟨by decide, rfl⟩ (y_parts _ _ r1 (sc_rg _ _) (sc_rg _ _)) rfl rfl ⟨Nat.le_of_ble_eq_true rfl, Nat.le_of_ble_eq_true rfl⟩ (Nat.le_of_ble_eq_true rfl) ⟨Nat.le_of_ble_eq_true rfl, Nat.le_of_ble_eq_true rfl⟩ ?_
  rintro z1308 m1308 h1308
  obtain ⟨e2, f2, r2⟩ := h1308
  have c2 := c1.l f2
  refine R_lif_same 1312 1680 rfl rfl dL_law_1311 dL_law_1312 (e1.trans e2.symm) ?_
  exact nx _ _ _ _ _ _ _ _ _ c2 r2
theorem lw_worth (hΓ : GOk Γ) (i : Nat) (zi : Int) (hzi : zi = (i : Int)) (hlen : i + 7 ≤ gN Γ) (hN3 : gN Γ ≤ 3584) (hC : IC L B ch T F I S N m) (hR : IR L B ch T F I S N m) (nx : NX Γ zi) : R Γ mL room_1 113 5922 QW 113 5922 1317 [some (vr 2000000), some (vr 0), some (vr 96), some (vi zi)] [] SH m := by
  refine R_aload_n 1318 rfl dL_law_1317 rfl ?_
  refine R_aload_n 1319 rfl dL_law_1318 rfl ?_
  refine R_iload_n 1320 rfl dL_law_1319 rfl ?_
  refine R_iconst 1321 rfl dL_law_1320 ?_
  refine R_iadd 1322 rfl dL_law_1321 ?_
  refine R_sld (i + 1) 1323 rfl dL_law_1322 (by omega) (by omega) hN3 ?_
  refine R_aload_n 1324 rfl dL_law_1323 rfl ?_
  refine R_iload_n 1325 rfl dL_law_1324 rfl ?_
  refine R_iconst 1326 rfl dL_law_1325 ?_
  refine R_iadd 1327 rfl dL_law_1326 ?_
  refine R_sld (i + 2) 1328 rfl dL_law_1327 (by omega) (by omega) hN3 ?_
  refine R_aload_n 1329 rfl dL_law_1328 rfl ?_
  refine R_iload_n 1330 rfl dL_law_1329 rfl ?_
  refine R_iconst 1331 rfl dL_law_1330 ?_
  refine R_iadd 1332 rfl dL_law_1331 ?_
  refine R_sld (i + 3) 1333 rfl dL_law_1332 (by omega) (by omega) hN3 ?_
  refine R_callV_I (M' := mX10_worth) 1336 rfl dL_law_1333 ml_L_144 kmX10_worth im_X10_worth se_X10_worth rfl ⟨by decide, rfl⟩ (x_worth _ _ _ hC (sc_rg _ _) (sc_rg _ _) (sc_rg _ _)) rfl rfl ⟨Nat.le_of_ble_eq_true rfl, Nat.le_of_ble_eq_true rfl⟩ (Nat.le_of_ble_eq_true rfl) ⟨Nat.le_of_ble_eq_true rfl, Nat.le_of_ble_eq_true rfl⟩ ?_
  rintro z1333 m1333 h1333
  obtain ⟨e1, f1, c1⟩ := h1333
  have r1 := hR.h f1 c1
  refine R_aload_n 1337 rfl dL_law_1336 rfl ?_
  refine R_aload_n 1338 rfl dL_law_1337 rfl ?_
  refine R_iload_n 1339 rfl dL_law_1338 rfl ?_
  refine R_iconst 1340 rfl dL_law_1339 ?_
  refine R_iadd 1341 rfl dL_law_1340 ?_
  refine R_sld (i + 1) 1342 rfl dL_law_1341 (by omega) (by omega) hN3 ?_
  refine R_aload_n 1343 rfl dL_law_1342 rfl ?_
  refine R_iload_n 1344 rfl dL_law_1343 rfl ?_
  refine R_iconst 1345 rfl dL_law_1344 ?_
  refine R_iadd 1346 rfl dL_law_1345 ?_
  refine R_sld (i + 2) 1347 rfl dL_law_1346 (by omega) (by omega) hN3 ?_
  refine R_aload_n 1348 rfl dL_law_1347 rfl ?_
  refine R_iload_n 1349 rfl dL_law_1348 rfl ?_
  refine R_iconst 1350 rfl dL_law_1349 ?_
  refine R_iadd 1351 rfl dL_law_1350 ?_
  refine R_sld (i + 3) 1352 rfl dL_law_1351 (by omega) (by omega) hN3 ?_
  refine R_callV_I (M' := mX11_worth) 1355 rfl dL_law_1352 ml_L_147 kmX11_worth im_X11_worth se_X11_worth rfl ⟨by decide, rfl⟩ (y_worth _ _ _ r1 (sc_rg _ _) (sc_rg _ _) (sc_rg _ _)) rfl rfl ⟨Nat.le_of_ble_eq_true rfl, Nat.le_of_ble_eq_true rfl⟩ (Nat.le_of_ble_eq_true rfl) ⟨Nat.le_of_ble_eq_true rfl, Nat.le_of_ble_eq_true rfl⟩ ?_
  rintro z1352 m1352 h1352
  obtain ⟨e2, f2, r2⟩ := h1352
  have c2 := c1.l f2
  refine R_icmp_same 1680 rfl dL_law_1355 (e1.trans e2.symm) ?_
  exact nx _ _ _ _ _ _ _ _ _ c2 r2
theorem lw_person (hΓ : GOk Γ) (i : Nat) (zi : Int) (hzi : zi = (i : Int)) (hlen : i + 7 ≤ gN Γ) (hN3 : gN Γ ≤ 3584) (hC : IC L B ch T F I S N m) (hR : IR L B ch T F I S N m) (nx : NX Γ zi) : R Γ mL room_1 113 5922 QW 113 5922 1360 [some (vr 2000000), some (vr 0), some (vr 96), some (vi zi)] [] SH m := by
  refine R_aload_n 1361 rfl dL_law_1360 rfl ?_
  refine R_aload_n 1362 rfl dL_law_1361 rfl ?_
  refine R_iload_n 1363 rfl dL_law_1362 rfl ?_
  refine R_iconst 1364 rfl dL_law_1363 ?_
  refine R_iadd 1365 rfl dL_law_1364 ?_
  refine R_sld (i + 1) 1366 rfl dL_law_1365 (by omega) (by omega) hN3 ?_
  refine R_aload_n 1367 rfl dL_law_1366 rfl ?_
  refine R_iload_n 1368 rfl dL_law_1367 rfl ?_
  refine R_iconst 1369 rfl dL_law_1368 ?_
  refine R_iadd 1370 rfl dL_law_1369 ?_
  refine R_sld (i + 2) 1371 rfl dL_law_1370 (by omega) (by omega) hN3 ?_
  refine R_callV_I (M' := mX10_person) 1374 rfl dL_law_1371 ml_L_148 kmX10_person im_X10_person se_X10_person rfl ⟨by decide, rfl⟩ (x_person _ _ hC (sc_rg _ _) (sc_rg _ _)) rfl rfl ⟨Nat.le_of_ble_eq_true rfl, Nat.le_of_ble_eq_true rfl⟩ (Nat.le_of_ble_eq_true rfl) ⟨Nat.le_of_ble_eq_true rfl, Nat.le_of_ble_eq_true rfl⟩ ?_
  rintro z1371 m1371 h1371
  obtain ⟨e1, f1, c1⟩ := h1371
  have r1 := hR.h f1 c1
  refine R_aload_n 1375 rfl dL_law_1374 rfl ?_
  refine R_aload_n 1376 rfl dL_law_1375 rfl ?_
  refine R_iload_n 1377 rfl dL_law_1376 rfl ?_
  refine R_iconst 1378 rfl dL_law_1377 ?_
  refine R_iadd 1379 rfl dL_law_1378 ?_
  refine R_sld (i + 1) 1380 rfl dL_law_1379 (by omega) (by omega) hN3 ?_
  refine R_aload_n 1381 rfl dL_law_1380 rfl ?_
  refine R_iload_n 1382 rfl dL_law_1381 rfl ?_
  refine R_iconst 1383 rfl dL_law_1382 ?_
  refine R_iadd 1384 rfl dL_law_1383 ?_
  refine R_sld (i + 2) 1385 rfl dL_law_1384 (by omega) (by omega) hN3 ?_
  refine R_callV_I (M' := mX11_person) 1388 rfl dL_law_1385 ml_L_151 kmX11_person im_X11_person se_X11_person rfl ⟨by decide, rfl⟩ (y_person _ _ r1 (sc_rg _ _) (sc_rg _ _)) rfl rfl ⟨Nat.le_of_ble_eq_true rfl, Nat.le_of_ble_eq_true rfl⟩ (Nat.le_of_ble_eq_true rfl) ⟨Nat.le_of_ble_eq_true rfl, Nat.le_of_ble_eq_true rfl⟩ ?_
  rintro z1385 m1385 h1385
  obtain ⟨e2, f2, r2⟩ := h1385
  have c2 := c1.l f2
  refine R_icmp_same 1680 rfl dL_law_1388 (e1.trans e2.symm) ?_
  exact nx _ _ _ _ _ _ _ _ _ c2 r2
theorem lw_twice (hΓ : GOk Γ) (i : Nat) (zi : Int) (hzi : zi = (i : Int)) (hlen : i + 7 ≤ gN Γ) (hN3 : gN Γ ≤ 3584) (hC : IC L B ch T F I S N m) (hR : IR L B ch T F I S N m) (nx : NX Γ zi) : R Γ mL room_1 113 5922 QW 113 5922 1393 [some (vr 2000000), some (vr 0), some (vr 96), some (vi zi)] [] SH m := by
  refine R_aload_n 1394 rfl dL_law_1393 rfl ?_
  refine R_aload_n 1395 rfl dL_law_1394 rfl ?_
  refine R_iload_n 1396 rfl dL_law_1395 rfl ?_
  refine R_iconst 1397 rfl dL_law_1396 ?_
  refine R_iadd 1398 rfl dL_law_1397 ?_
  refine R_sld (i + 1) 1399 rfl dL_law_1398 (by omega) (by omega) hN3 ?_
  refine R_callV_I (M' := mX10_twice) 1402 rfl dL_law_1399 ml_L_152 kmX10_twice im_X10_twice se_X10_twice rfl ⟨by decide, rfl⟩ (x_twice _ hC (sc_rg _ _)) rfl rfl ⟨Nat.le_of_ble_eq_true rfl, Nat.le_of_ble_eq_true rfl⟩ (Nat.le_of_ble_eq_true rfl) ⟨Nat.le_of_ble_eq_true rfl, Nat.le_of_ble_eq_true rfl⟩ ?_
  rintro z1399 m1399 h1399
  obtain ⟨e1, f1, c1⟩ := h1399
  have r1 := hR.h f1 c1
  refine R_aload_n 1403 rfl dL_law_1402 rfl ?_
  refine R_aload_n 1404 rfl dL_law_1403 rfl ?_
  refine R_iload_n 1405 rfl dL_law_1404 rfl ?_
  refine R_iconst 1406 rfl dL_law_1405 ?_
  refine R_iadd 1407 rfl dL_law_1406 ?_
  refine R_sld (i + 1) 1408 rfl dL_law_1407 (by omega) (by omega) hN3 ?_
  refine R_callV_I (M' := mX11_twice) 1411 rfl dL_law_1408 ml_L_155 kmX11_twice im_X11_twice se_X11_twice rfl ⟨by decide, rfl⟩ (y_twice _ r1 (sc_rg _ _)) rfl rfl ⟨Nat.le_of_ble_eq_true rfl, Nat.le_of_ble_eq_true rfl⟩ (Nat.le_of_ble_eq_true rfl) ⟨Nat.le_of_ble_eq_true rfl, Nat.le_of_ble_eq_true rfl⟩ ?_
  rintro z1408 m1408 h1408
  obtain ⟨e2, f2, r2⟩ := h1408
  have c2 := c1.l f2
  refine R_icmp_same 1680 rfl dL_law_1411 (e1.trans e2.symm) ?_
  exact nx _ _ _ _ _ _ _ _ _ c2 r2
theorem lw_find (hΓ : GOk Γ) (i : Nat) (zi : Int) (hzi : zi = (i : Int)) (hlen : i + 7 ≤ gN Γ) (hN3 : gN Γ ≤ 3584) (hC : IC L B ch T F I S N m) (hR : IR L B ch T F I S N m) (nx : NX Γ zi) : R Γ mL room_1 113 5922 QW 113 5922 1416 [some (vr 2000000), some (vr 0), some (vr 96), some (vi zi)] [] SH m := by
  refine R_aload_n 1417 rfl dL_law_1416 rfl ?_
  refine R_aload_n 1418 rfl dL_law_1417 rfl ?_
  refine R_iload_n 1419 rfl dL_law_1418 rfl ?_
  refine R_iconst 1420 rfl dL_law_1419 ?_
  refine R_iadd 1421 rfl dL_law_1420 ?_
  refine R_sld (i + 1) 1422 rfl dL_law_1421 (by omega) (by omega) hN3 ?_
  refine R_aload_n 1423 rfl dL_law_1422 rfl ?_
  refine R_iload_n 1424 rfl dL_law_1423 rfl ?_
  refine R_iconst 1425 rfl dL_law_1424 ?_
  refine R_iadd 1426 rfl dL_law_1425 ?_
  refine R_sld (i + 2) 1427 rfl dL_law_1426 (by omega) (by omega) hN3 ?_
  refine R_aload_n 1428 rfl dL_law_1427 rfl ?_
  refine R_iload_n 1429 rfl dL_law_1428 rfl ?_
  refine R_iconst 1430 rfl dL_law_1429 ?_
  refine R_iadd 1431 rfl dL_law_1430 ?_
  refine R_sld (i + 3) 1432 rfl dL_law_1431 (by omega) (by omega) hN3 ?_
  refine R_callV_I (M' := mX10_find) 1435 rfl dL_law_1432 ml_L_156 kmX10_find im_X10_find se_X10_find rfl ⟨by decide, rfl⟩ (x_find _ _ _ hC (sc_rg _ _) (sc_rg _ _) (sc_rg _ _)) rfl rfl ⟨Nat.le_of_ble_eq_true rfl, Nat.le_of_ble_eq_true rfl⟩ (Nat.le_of_ble_eq_true rfl) ⟨Nat.le_of_ble_eq_true rfl, Nat.le_of_ble_eq_true rfl⟩ ?_
  rintro z1432 m1432 h1432
  obtain ⟨e1, f1, c1⟩ := h1432
  have r1 := hR.h f1 c1
  refine R_aload_n 1436 rfl dL_law_1435 rfl ?_
  refine R_aload_n 1437 rfl dL_law_1436 rfl ?_
  refine R_iload_n 1438 rfl dL_law_1437 rfl ?_
  refine R_iconst 1439 rfl dL_law_1438 ?_
  refine R_iadd 1440 rfl dL_law_1439 ?_
  refine R_sld (i + 1) 1441 rfl dL_law_1440 (by omega) (by omega) hN3 ?_
  refine R_aload_n 1442 rfl dL_law_1441 rfl ?_
  refine R_iload_n 1443 rfl dL_law_1442 rfl ?_
  refine R_iconst 1444 rfl dL_law_1443 ?_
  refine R_iadd 1445 rfl dL_law_1444 ?_
  refine R_sld (i + 2) 1446 rfl dL_law_1445 (by omega) (by omega) hN3 ?_
  refine R_aload_n 1447 rfl dL_law_1446 rfl ?_
  refine R_iload_n 1448 rfl dL_law_1447 rfl ?_
  refine R_iconst 1449 rfl dL_law_1448 ?_
  refine R_iadd 1450 rfl dL_law_1449 ?_
  refine R_sld (i + 3) 1451 rfl dL_law_1450 (by omega) (by omega) hN3 ?_
  refine R_callV_I (M' := mX11_find) 1454 rfl dL_law_1451 ml_L_159 kmX11_find im_X11_find se_X11_find rfl ⟨by decide, rfl⟩ (y_find _ _ _ r1 (sc_rg _ _) (sc_rg _ _) (sc_rg _ _)) rfl rfl ⟨Nat.le_of_ble_eq_true rfl, Nat.le_of_ble_eq_true rfl⟩ (Nat.le_of_ble_eq_true rfl) ⟨Nat.le_of_ble_eq_true rfl, Nat.le_of_ble_eq_true rfl⟩ ?_
  rintro z1451 m1451 h1451
  obtain ⟨e2, f2, r2⟩ := h1451
  have c2 := c1.l f2
  refine R_icmp_same 1680 rfl dL_law_1454 (e1.trans e2.symm) ?_
  exact nx _ _ _ _ _ _ _ _ _ c2 r2
theorem lw_keep (hΓ : GOk Γ) (i : Nat) (zi : Int) (hzi : zi = (i : Int)) (hlen : i + 7 ≤ gN Γ) (hN3 : gN Γ ≤ 3584) (hC : IC L B ch T F I S N m) (hR : IR L B ch T F I S N m) (nx : NX Γ zi) : R Γ mL room_1 113 5922 QW 113 5922 1459 [some (vr 2000000), some (vr 0), some (vr 96), some (vi zi)] [] SH m := by
  refine R_aload_n 1460 rfl dL_law_1459 rfl ?_
  refine R_aload_n 1461 rfl dL_law_1460 rfl ?_
  refine R_iload_n 1462 rfl dL_law_1461 rfl ?_
  refine R_iconst 1463 rfl dL_law_1462 ?_
  refine R_iadd 1464 rfl dL_law_1463 ?_
  refine R_sld (i + 1) 1465 rfl dL_law_1464 (by omega) (by omega) hN3 ?_
  refine R_callV_I (M' := mX10_keep) 1468 rfl dL_law_1465 ml_L_160 kmX10_keep im_X10_keep se_X10_keep rfl ⟨by decide, rfl⟩ (x_keep _ hC (sc_rg _ _)) rfl rfl ⟨Nat.le_of_ble_eq_true rfl, Nat.le_of_ble_eq_true rfl⟩ (Nat.le_of_ble_eq_true rfl) ⟨Nat.le_of_ble_eq_true rfl, Nat.le_of_ble_eq_true rfl⟩ ?_
  rintro z1465 m1465 h1465
  obtain ⟨e1, f1, c1⟩ := h1465
  have r1 := hR.h f1 c1
  refine R_aload_n 1469 rfl dL_law_1468 rfl ?_
  refine R_aload_n 1470 rfl dL_law_1469 rfl ?_
  refine R_iload_n 1471 rfl dL_law_1470 rfl ?_
  refine R_iconst 1472 rfl dL_law_1471 ?_
  refine R_iadd 1473 rfl dL_law_1472 ?_
  refine R_sld (i + 1) 1474 rfl dL_law_1473 (by omega) (by omega) hN3 ?_
  refine R_callV_I (M' := mX11_keep) 1477 rfl dL_law_1474 ml_L_163 kmX11_keep im_X11_keep se_X11_keep rfl ⟨by decide, rfl⟩ (y_keep _ r1 (sc_rg _ _)) rfl rfl ⟨Nat.le_of_ble_eq_true rfl, Nat.le_of_ble_eq_true rfl⟩ (Nat.le_of_ble_eq_true rfl) ⟨Nat.le_of_ble_eq_true rfl, Nat.le_of_ble_eq_true rfl⟩ ?_
  rintro z1474 m1474 h1474
  obtain ⟨e2, f2, r2⟩ := h1474
  have c2 := c1.l f2
  refine R_icmp_same 1680 rfl dL_law_1477 (e1.trans e2.symm) ?_
  exact nx _ _ _ _ _ _ _ _ _ c2 r2
theorem lw_back (hΓ : GOk Γ) (i : Nat) (zi : Int) (hzi : zi = (i : Int)) (hlen : i + 7 ≤ gN Γ) (hN3 : gN Γ ≤ 3584) (hC : IC L B ch T F I S N m) (hR : IR L B ch T F I S N m) (nx : NX Γ zi) : R Γ mL room_1 113 5922 QW 113 5922 1482 [some (vr 2000000), some (vr 0), some (vr 96), some (vi zi)] [] SH m := by
  refine R_aload_n 1483 rfl dL_law_1482 rfl ?_
  refine R_aload_n 1484 rfl dL_law_1483 rfl ?_
  refine R_iload_n 1485 rfl dL_law_1484 rfl ?_
  refine R_iconst 1486 rfl dL_law_1485 ?_
  refine R_iadd 1487 rfl dL_law_1486 ?_
  refine R_sld (i + 1) 1488 rfl dL_law_1487 (by omega) (by omega) hN3 ?_
  refine R_callV_I (M' := mX10_back) 1491 rfl dL_law_1488 ml_L_164 kmX10_back im_X10_back se_X10_back rfl ⟨by decide, rfl⟩ (x_back _ hC (sc_rg _ _)) rfl rfl ⟨Nat.le_of_ble_eq_true rfl, Nat.le_of_ble_eq_true rfl⟩ (Nat.le_of_ble_eq_true rfl) ⟨Nat.le_of_ble_eq_true rfl, Nat.le_of_ble_eq_true rfl⟩ ?_
  rintro z1488 m1488 h1488
  obtain ⟨e1, f1, c1⟩ := h1488
  have r1 := hR.h f1 c1
  refine R_aload_n 1492 rfl dL_law_1491 rfl ?_
  refine R_aload_n 1493 rfl dL_law_1492 rfl ?_
  refine R_iload_n 1494 rfl dL_law_1493 rfl ?_
  refine R_iconst 1495 rfl dL_law_1494 ?_
  refine R_iadd 1496 rfl dL_law_1495 ?_
  refine R_sld (i + 1) 1497 rfl dL_law_1496 (by omega) (by omega) hN3 ?_
  refine R_callV_I (M' := mX11_back) 1500 rfl dL_law_1497 ml_L_167 kmX11_back im_X11_back se_X11_back rfl ⟨by decide, rfl⟩ (y_back _ r1 (sc_rg _ _)) rfl rfl ⟨Nat.le_of_ble_eq_true rfl, Nat.le_of_ble_eq_true rfl⟩ (Nat.le_of_ble_eq_true rfl) ⟨Nat.le_of_ble_eq_true rfl, Nat.le_of_ble_eq_true rfl⟩ ?_
  rintro z1497 m1497 h1497
  obtain ⟨e2, f2, r2⟩ := h1497
  have c2 := c1.l f2
  refine R_icmp_same 1680 rfl dL_law_1500 (e1.trans e2.symm) ?_
  exact nx _ _ _ _ _ _ _ _ _ c2 r2
theorem lw_sheet (hΓ : GOk Γ) (i : Nat) (zi : Int) (hzi : zi = (i : Int)) (hlen : i + 7 ≤ gN Γ) (hN3 : gN Γ ≤ 3584) (hC : IC L B ch T F I S N m) (hR : IR L B ch T F I S N m) (nx : NX Γ zi) : R Γ mL room_1 113 5922 QW 113 5922 1505 [some (vr 2000000), some (vr 0), some (vr 96), some (vi zi)] [] SH m := by
  refine R_aload_n 1506 rfl dL_law_1505 rfl ?_
  refine R_aload_n 1507 rfl dL_law_1506 rfl ?_
  refine R_iload_n 1508 rfl dL_law_1507 rfl ?_
  refine R_iconst 1509 rfl dL_law_1508 ?_
  refine R_iadd 1510 rfl dL_law_1509 ?_
  refine R_sld (i + 1) 1511 rfl dL_law_1510 (by omega) (by omega) hN3 ?_
  refine R_aload_n 1512 rfl dL_law_1511 rfl ?_
  refine R_iload_n 1513 rfl dL_law_1512 rfl ?_
  refine R_iconst 1514 rfl dL_law_1513 ?_
  refine R_iadd 1515 rfl dL_law_1514 ?_
  refine R_sld (i + 2) 1516 rfl dL_law_1515 (by omega) (by omega) hN3 ?_
  refine R_aload_n 1517 rfl dL_law_1516 rfl ?_
  refine R_iload_n 1518 rfl dL_law_1517 rfl ?_
  refine R_iconst 1519 rfl dL_law_1518 ?_
  refine R_iadd 1520 rfl dL_law_1519 ?_
  refine R_sld (i + 3) 1521 rfl dL_law_1520 (by omega) (by omega) hN3 ?_
  refine R_callV_I (M' := mX10_sheet) 1524 rfl dL_law_1521 ml_L_168 kmX10_sheet im_X10_sheet se_X10_sheet rfl ⟨by decide, rfl⟩ (x_sheet _ _ _ hC (sc_rg _ _) (sc_rg _ _) (sc_rg _ _)) rfl rfl ⟨Nat.le_of_ble_eq_true rfl, Nat.le_of_ble_eq_true rfl⟩ (Nat.le_of_ble_eq_true rfl) ⟨Nat.le_of_ble_eq_true rfl, Nat.le_of_ble_eq_true rfl⟩ ?_
  rintro z1521 m1521 h1521
  obtain ⟨e1, f1, c1⟩ := h1521
  have r1 := hR.h f1 c1
  refine R_aload_n 1525 rfl dL_law_1524 rfl ?_
  refine R_aload_n 1526 rfl dL_law_1525 rfl ?_
  refine R_iload_n 1527 rfl dL_law_1526 rfl ?_
  refine R_iconst 1528 rfl dL_law_1527 ?_
  refine R_iadd 1529 rfl dL_law_1528 ?_
  refine R_sld (i + 1) 1530 rfl dL_law_1529 (by omega) (by omega) hN3 ?_
  refine R_aload_n 1531 rfl dL_law_1530 rfl ?_
  refine R_iload_n 1532 rfl dL_law_1531 rfl ?_
  refine R_iconst 1533 rfl dL_law_1532 ?_
  refine R_iadd 1534 rfl dL_law_1533 ?_
  refine R_sld (i + 2) 1535 rfl dL_law_1534 (by omega) (by omega) hN3 ?_
  refine R_aload_n 1536 rfl dL_law_1535 rfl ?_
  refine R_iload_n 1537 rfl dL_law_1536 rfl ?_
  refine R_iconst 1538 rfl dL_law_1537 ?_
  refine R_iadd 1539 rfl dL_law_1538 ?_
  refine R_sld (i + 3) 1540 rfl dL_law_1539 (by omega) (by omega) hN3 ?_
  refine R_callV_I (M' := mX11_sheet) 1543 rfl dL_law_1540 ml_L_171 kmX11_sheet im_X11_sheet se_X11_sheet rfl ⟨by decide, rfl⟩ (y_sheet _ _ _ r1 (sc_rg _ _) (sc_rg _ _) (sc_rg _ _)) rfl rfl ⟨Nat.le_of_ble_eq_true rfl, Nat.le_of_ble_eq_true rfl⟩ (Nat.le_of_ble_eq_true rfl) ⟨Nat.le_of_ble_eq_true rfl, Nat.le_of_ble_eq_true rfl⟩ ?_
  rintro z1540 m1540 h1540
  obtain ⟨e2, f2, r2⟩ := h1540
  have c2 := c1.l f2
  refine R_icmp_same 1680 rfl dL_law_1543 (e1.trans e2.symm) ?_
  exact nx _ _ _ _ _ _ _ _ _ c2 r2
theorem lw_lay (hΓ : GOk Γ) (i : Nat) (zi : Int) (hzi : zi = (i : Int)) (hlen : i + 7 ≤ gN Γ) (hN3 : gN Γ ≤ 3584) (hC : IC L B ch T F I S N m) (hR : IR L B ch T F I S N m) (nx : NX Γ zi) : R Γ mL room_1 113 5922 QW 113 5922 1548 [some (vr 2000000), some (vr 0), some (vr 96), some (vi zi)] [] SH m := by
  refine R_aload_n 1549 rfl dL_law_1548 rfl ?_
  refine R_aload_n 1550 rfl dL_law_1549 rfl ?_
  refine R_iload_n 1551 rfl dL_law_1550 rfl ?_
  refine R_iconst 1552 rfl dL_law_1551 ?_
  refine R_iadd 1553 rfl dL_law_1552 ?_
  refine R_sld (i + 1) 1554 rfl dL_law_1553 (by omega) (by omega) hN3 ?_
  refine R_aload_n 1555 rfl dL_law_1554 rfl ?_
  refine R_iload_n 1556 rfl dL_law_1555 rfl ?_
  refine R_iconst 1557 rfl dL_law_1556 ?_
  refine R_iadd 1558 rfl dL_law_1557 ?_
  refine R_sld (i + 2) 1559 rfl dL_law_1558 (by omega) (by omega) hN3 ?_
  refine R_aload_n 1560 rfl dL_law_1559 rfl ?_
  refine R_iload_n 1561 rfl dL_law_1560 rfl ?_
  refine R_iconst 1562 rfl dL_law_1561 ?_
  refine R_iadd 1563 rfl dL_law_1562 ?_
  refine R_sld (i + 3) 1564 rfl dL_law_1563 (by omega) (by omega) hN3 ?_
  refine R_callV_I (M' := mX10_lay) 1567 rfl dL_law_1564 ml_L_172 kmX10_lay im_X10_lay se_X10_lay rfl ⟨by decide, rfl⟩ (x_lay _ _ _ hC (sc_rg _ _) (sc_rg _ _) (sc_rg _ _)) rfl rfl ⟨Nat.le_of_ble_eq_true rfl, Nat.le_of_ble_eq_true rfl⟩ (Nat.le_of_ble_eq_true rfl) ⟨Nat.le_of_ble_eq_true rfl, Nat.le_of_ble_eq_true rfl⟩ ?_
  rintro z1564 m1564 h1564
  obtain ⟨e1, f1, c1⟩ := h1564
  have r1 := hR.h f1 c1
  refine R_aload_n 1568 rfl dL_law_1567 rfl ?_
  refine R_aload_n 1569 rfl dL_law_1568 rfl ?_
  refine R_iload_n 1570 rfl dL_law_1569 rfl ?_
  refine R_iconst 1571 rfl dL_law_1570 ?_
  refine R_iadd 1572 rfl dL_law_1571 ?_
  refine R_sld (i + 1) 1573 rfl dL_law_1572 (by omega) (by omega) hN3 ?_
  refine R_aload_n 1574 rfl dL_law_1573 rfl ?_
  refine R_iload_n 1575 rfl dL_law_1574 rfl ?_
  refine R_iconst 1576 rfl dL_law_1575 ?_
  refine R_iadd 1577 rfl dL_law_1576 ?_
  refine R_sld (i + 2) 1578 rfl dL_law_1577 (by omega) (by omega) hN3 ?_
  refine R_aload_n 1579 rfl dL_law_1578 rfl ?_
  refine R_iload_n 1580 rfl dL_law_1579 rfl ?_
  refine R_iconst 1581 rfl dL_law_1580 ?_
  refine R_iadd 1582 rfl dL_law_1581 ?_
  refine R_sld (i + 3) 1583 rfl dL_law_1582 (by omega) (by omega) hN3 ?_
  refine R_callV_I (M' := mX11_lay) 1586 rfl dL_law_1583 ml_L_175 kmX11_lay im_X11_lay se_X11_lay rfl ⟨by decide, rfl⟩ (y_lay _ _ _ r1 (sc_rg _ _) (sc_rg _ _) (sc_rg _ _)) rfl rfl ⟨Nat.le_of_ble_eq_true rfl, Nat.le_of_ble_eq_true rfl⟩ (Nat.le_of_ble_eq_true rfl) ⟨Nat.le_of_ble_eq_true rfl, Nat.le_of_ble_eq_true rfl⟩ ?_
  rintro z1583 m1583 h1583
  obtain ⟨e2, f2, r2⟩ := h1583
  have c2 := c1.l f2
  refine R_icmp_same 1680 rfl dL_law_1586 (e1.trans e2.symm) ?_
  exact nx _ _ _ _ _ _ _ _ _ c2 r2
theorem lw_read (hΓ : GOk Γ) (i : Nat) (zi : Int) (hzi : zi = (i : Int)) (hlen : i + 7 ≤ gN Γ) (hN3 : gN Γ ≤ 3584) (hC : IC L B ch T F I S N m) (hR : IR L B ch T F I S N m) (nx : NX Γ zi) : R Γ mL room_1 113 5922 QW 113 5922 1591 [some (vr 2000000), some (vr 0), some (vr 96), some (vi zi)] [] SH m := by
  refine R_aload_n 1592 rfl dL_law_1591 rfl ?_
  refine R_aload_n 1593 rfl dL_law_1592 rfl ?_
  refine R_iload_n 1594 rfl dL_law_1593 rfl ?_
  refine R_iconst 1595 rfl dL_law_1594 ?_
  refine R_iadd 1596 rfl dL_law_1595 ?_
  refine R_sld (i + 1) 1597 rfl dL_law_1596 (by omega) (by omega) hN3 ?_
  refine R_aload_n 1598 rfl dL_law_1597 rfl ?_
  refine R_iload_n 1599 rfl dL_law_1598 rfl ?_
  refine R_iconst 1600 rfl dL_law_1599 ?_
  refine R_iadd 1601 rfl dL_law_1600 ?_
  refine R_sld (i + 2) 1602 rfl dL_law_1601 (by omega) (by omega) hN3 ?_
  refine R_aload_n 1603 rfl dL_law_1602 rfl ?_
  refine R_iload_n 1604 rfl dL_law_1603 rfl ?_
  refine R_iconst 1605 rfl dL_law_1604 ?_
  refine R_iadd 1606 rfl dL_law_1605 ?_
  refine R_sld (i + 3) 1607 rfl dL_law_1606 (by omega) (by omega) hN3 ?_
  refine R_aload_n 1608 rfl dL_law_1607 rfl ?_
  refine R_iload_n 1609 rfl dL_law_1608 rfl ?_
  refine R_iconst 1610 rfl dL_law_1609 ?_
  refine R_iadd 1611 rfl dL_law_1610 ?_
  refine R_sld (i + 4) 1612 rfl dL_law_1611 (by omega) (by omega) hN3 ?_
  refine R_callV_I (M' := mX10_read) 1615 rfl dL_law_1612 ml_L_176 kmX10_read im_X10_read se_X10_read rfl ⟨by decide, rfl⟩ (x_read _ _ _ _ hC (sc_rg _ _) (sc_rg _ _) (sc_rg _ _) (sc_rg _ _)) rfl rfl ⟨Nat.le_of_ble_eq_true rfl, Nat.le_of_ble_eq_true rfl⟩ (Nat.le_of_ble_eq_true rfl) ⟨Nat.le_of_ble_eq_true rfl, Nat.le_of_ble_eq_true rfl⟩ ?_
  rintro z1612 m1612 h1612
  obtain ⟨e1, f1, c1⟩ := h1612
  have r1 := hR.h f1 c1
  refine R_aload_n 1616 rfl dL_law_1615 rfl ?_
  refine R_aload_n 1617 rfl dL_law_1616 rfl ?_
  refine R_iload_n 1618 rfl dL_law_1617 rfl ?_
  refine R_iconst 1619 rfl dL_law_1618 ?_
  refine R_iadd 1620 rfl dL_law_1619 ?_
  refine R_sld (i + 1) 1621 rfl dL_law_1620 (by omega) (by omega) hN3 ?_
  refine R_aload_n 1622 rfl dL_law_1621 rfl ?_
  refine R_iload_n 1623 rfl dL_law_1622 rfl ?_
  refine R_iconst 1624 rfl dL_law_1623 ?_
  refine R_iadd 1625 rfl dL_law_1624 ?_
  refine R_sld (i + 2) 1626 rfl dL_law_1625 (by omega) (by omega) hN3 ?_
  refine R_aload_n 1627 rfl dL_law_1626 rfl ?_
  refine R_iload_n 1628 rfl dL_law_1627 rfl ?_
  refine R_iconst 1629 rfl dL_law_1628 ?_
  refine R_iadd 1630 rfl dL_law_1629 ?_
  refine R_sld (i + 3) 1631 rfl dL_law_1630 (by omega) (by omega) hN3 ?_
  refine R_aload_n 1632 rfl dL_law_1631 rfl ?_
  refine R_iload_n 1633 rfl dL_law_1632 rfl ?_
  refine R_iconst 1634 rfl dL_law_1633 ?_
  refine R_iadd 1635 rfl dL_law_1634 ?_
  refine R_sld (i + 4) 1636 rfl dL_law_1635 (by omega) (by omega) hN3 ?_
  refine R_callV_I (M' := mX11_read) 1639 rfl dL_law_1636 ml_L_179 kmX11_read im_X11_read se_X11_read rfl ⟨by decide, rfl⟩ (y_read _ _ _ _ r1 (sc_rg _ _) (sc_rg _ _) (sc_rg _ _) (sc_rg _ _)) rfl rfl ⟨Nat.le_of_ble_eq_true rfl, Nat.le_of_ble_eq_true rfl⟩ (Nat.le_of_ble_eq_true rfl) ⟨Nat.le_of_ble_eq_true rfl, Nat.le_of_ble_eq_true rfl⟩ ?_
  rintro z1636 m1636 h1636
  obtain ⟨e2, f2, r2⟩ := h1636
  have c2 := c1.l f2
  refine R_icmp_same 1680 rfl dL_law_1639 (e1.trans e2.symm) ?_
  exact nx _ _ _ _ _ _ _ _ _ c2 r2
theorem lw_torn (hΓ : GOk Γ) (i : Nat) (zi : Int) (hzi : zi = (i : Int)) (hlen : i + 7 ≤ gN Γ) (hN3 : gN Γ ≤ 3584) (hC : IC L B ch T F I S N m) (hR : IR L B ch T F I S N m) (nx : NX Γ zi) : R Γ mL room_1 113 5922 QW 113 5922 1644 [some (vr 2000000), some (vr 0), some (vr 96), some (vi zi)] [] SH m := by
  refine R_aload_n 1645 rfl dL_law_1644 rfl ?_
  refine R_callV_I (M' := mX10_torn) 1648 rfl dL_law_1645 ml_L_180 kmX10_torn im_X10_torn se_X10_torn rfl ⟨by decide, rfl⟩ (x_torn  hC ) rfl rfl ⟨Nat.le_of_ble_eq_true rfl, Nat.le_of_ble_eq_true rfl⟩ (Nat.le_of_ble_eq_true rfl) ⟨Nat.le_of_ble_eq_true rfl, Nat.le_of_ble_eq_true rfl⟩ ?_
  rintro z1645 m1645 h1645
  obtain ⟨e1, f1, c1⟩ := h1645
  have r1 := hR.h f1 c1
  refine R_aload_n 1649 rfl dL_law_1648 rfl ?_
  refine R_callV_I (M' := mX11_torn) 1652 rfl dL_law_1649 ml_L_183 kmX11_torn im_X11_torn se_X11_torn rfl ⟨by decide, rfl⟩ (y_torn  r1 ) rfl rfl ⟨Nat.le_of_ble_eq_true rfl, Nat.le_of_ble_eq_true rfl⟩ (Nat.le_of_ble_eq_true rfl) ⟨Nat.le_of_ble_eq_true rfl, Nat.le_of_ble_eq_true rfl⟩ ?_
  rintro z1649 m1649 h1649
  obtain ⟨e2, f2, r2⟩ := h1649
  have c2 := c1.l f2
  refine R_icmp_same 1680 rfl dL_law_1652 (e1.trans e2.symm) ?_
  exact nx _ _ _ _ _ _ _ _ _ c2 r2
theorem lw_count (hΓ : GOk Γ) (i : Nat) (zi : Int) (hzi : zi = (i : Int)) (hlen : i + 7 ≤ gN Γ) (hN3 : gN Γ ≤ 3584) (hC : IC L B ch T F I S N m) (hR : IR L B ch T F I S N m) (nx : NX Γ zi) : R Γ mL room_1 113 5922 QW 113 5922 1657 [some (vr 2000000), some (vr 0), some (vr 96), some (vi zi)] [] SH m := by
  refine R_aload_n 1658 rfl dL_law_1657 rfl ?_
  refine R_aload_n 1659 rfl dL_law_1658 rfl ?_
  refine R_iload_n 1660 rfl dL_law_1659 rfl ?_
  refine R_iconst 1661 rfl dL_law_1660 ?_
  refine R_iadd 1662 rfl dL_law_1661 ?_
  refine R_sld (i + 1) 1663 rfl dL_law_1662 (by omega) (by omega) hN3 ?_
  refine R_callV_I (M' := mX10_count) 1666 rfl dL_law_1663 ml_L_184 kmX10_count im_X10_count se_X10_count rfl ⟨by decide, rfl⟩ (x_count _ hC (sc_rg _ _)) rfl rfl ⟨Nat.le_of_ble_eq_true rfl, Nat.le_of_ble_eq_true rfl⟩ (Nat.le_of_ble_eq_true rfl) ⟨Nat.le_of_ble_eq_true rfl, Nat.le_of_ble_eq_true rfl⟩ ?_
  rintro z1663 m1663 h1663
  obtain ⟨e1, f1, c1⟩ := h1663
  have r1 := hR.h f1 c1
  refine R_aload_n 1667 rfl dL_law_1666 rfl ?_
  refine R_aload_n 1668 rfl dL_law_1667 rfl ?_
  refine R_iload_n 1669 rfl dL_law_1668 rfl ?_
  refine R_iconst 1670 rfl dL_law_1669 ?_
  refine R_iadd 1671 rfl dL_law_1670 ?_
  refine R_sld (i + 1) 1672 rfl dL_law_1671 (by omega) (by omega) hN3 ?_
  refine R_callV_I (M' := mX11_count) 1675 rfl dL_law_1672 ml_L_187 kmX11_count im_X11_count se_X11_count rfl ⟨by decide, rfl⟩ (y_count _ r1 (sc_rg _ _)) rfl rfl ⟨Nat.le_of_ble_eq_true rfl, Nat.le_of_ble_eq_true rfl⟩ (Nat.le_of_ble_eq_true rfl) ⟨Nat.le_of_ble_eq_true rfl, Nat.le_of_ble_eq_true rfl⟩ ?_
  rintro z1672 m1672 h1672
  obtain ⟨e2, f2, r2⟩ := h1672
  have c2 := c1.l f2
  refine R_icmp_same 1680 rfl dL_law_1675 (e1.trans e2.symm) ?_
  exact nx _ _ _ _ _ _ _ _ _ c2 r2
end

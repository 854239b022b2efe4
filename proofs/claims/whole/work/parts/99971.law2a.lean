/-! ===== the law, second: cases 0 to 1 (laid by wip/whole/src/law2.py) ===== -/
section
variable {X : x_X} {I : Nat → Nat → Int32} {L : Nat → Nat → Int64} {R : Nat → Nat → Option Nat} {N : Nat}
section
variable {Lw c k : Nat} {xs : Nat → Int32} {w5 w6 w7 : Option Value}
theorem lk_0 (hlen : 7 * N + 7 ≤ Lw) (hLw : Lw ≤ 3584) (T : y_T N I L R) (hN : N < 512) (hc : c ≤ 233 + 4 * N) (hk : k ≤ 14655 + 24 * N) (hx : xs (7 * N) &&& 63 = Int32.ofNat 0) : y_Nx Lw xs N I L R c k w5 w6 w7 := by
  have sm : y_OI N (Lw, xs) mL_append [.ref 0, .int (xs (7 * N + 1)), .int (xs (7 * N + 2)), .int (xs (7 * N + 3)), .int (xs (7 * N + 4)), .int (xs (7 * N + 5)), .ref 232] mX9_append [.ref 225, .int (xs (7 * N + 1)), .int (xs (7 * N + 2)), .int (xs (7 * N + 3)), .int (xs (7 * N + 4)), .int (xs (7 * N + 5))] I L R := sim_append (X := (Lw, xs)) T
  obtain ⟨k0, I1, L1, R1, v, I2, L2, h1, h2, ht, hv, T2⟩ := sm
  by_cases z : k0 = 0
  · refine ⟨I2, L2, R1, some (.int k0), some (.int v), w7, c + 1, k + 6, T2, by omega, by omega, fun r hr => ?_⟩
    refine e_tsI (j := 0) (off := 208) 248 dL_law_40 rfl (by rw [hx]; decide) (by decide) rfl rfl ?_
    refine f_aload_n (M := mL_law) 249 dL_law_248 rfl rfl ?_
    refine f_aload_n (M := mL_law) 250 dL_law_249 rfl rfl ?_
    refine f_iload (M := mL_law) 252 dL_law_250 rfl rfl ?_
    refine f_iconst (M := mL_law) 253 dL_law_252 ki_1 rfl ?_
    refine f_iadd (M := mL_law) 254 dL_law_253 rfl ?_
    refine e_iaf (M := mL_law) (w := Lw) (f := xs) (j := (7 * N) + (1)) dL_law_254 (x_kk rfl) rfl (ix_add rfl kn_1) (by omega) (by omega) ?_
    refine f_aload_n (M := mL_law) 256 dL_law_255 rfl rfl ?_
    refine f_iload (M := mL_law) 258 dL_law_256 rfl rfl ?_
    refine f_iconst (M := mL_law) 259 dL_law_258 ki_2 rfl ?_
    refine f_iadd (M := mL_law) 260 dL_law_259 rfl ?_
    refine e_iaf (M := mL_law) (w := Lw) (f := xs) (j := (7 * N) + (2)) dL_law_260 (x_kk rfl) rfl (ix_add rfl kn_2) (by omega) (by omega) ?_
    refine f_aload_n (M := mL_law) 262 dL_law_261 rfl rfl ?_
    refine f_iload (M := mL_law) 264 dL_law_262 rfl rfl ?_
    refine f_iconst (M := mL_law) 265 dL_law_264 ki_3 rfl ?_
    refine f_iadd (M := mL_law) 266 dL_law_265 rfl ?_
    refine e_iaf (M := mL_law) (w := Lw) (f := xs) (j := (7 * N) + (3)) dL_law_266 (x_kk rfl) rfl (ix_add rfl kn_3) (by omega) (by omega) ?_
    refine f_aload_n (M := mL_law) 268 dL_law_267 rfl rfl ?_
    refine f_iload (M := mL_law) 270 dL_law_268 rfl rfl ?_
    refine f_iconst (M := mL_law) 271 dL_law_270 ki_4 rfl ?_
    refine f_iadd (M := mL_law) 272 dL_law_271 rfl ?_
    refine e_iaf (M := mL_law) (w := Lw) (f := xs) (j := (7 * N) + (4)) dL_law_272 (x_kk rfl) rfl (ix_add rfl kn_4) (by omega) (by omega) ?_
    refine f_aload_n (M := mL_law) 274 dL_law_273 rfl rfl ?_
    refine f_iload (M := mL_law) 276 dL_law_274 rfl rfl ?_
    refine f_iconst (M := mL_law) 277 dL_law_276 ki_5 rfl ?_
    refine f_iadd (M := mL_law) 278 dL_law_277 rfl ?_
    refine e_iaf (M := mL_law) (w := Lw) (f := xs) (j := (7 * N) + (5)) dL_law_278 (x_kk rfl) rfl (ix_add rfl kn_5) (by omega) (by omega) ?_
    refine f_aload_n (M := mL_law) 280 dL_law_279 rfl rfl ?_
    refine e_cS (M := mL_law) [_] (c + 1) (k + 6) dL_law_280 pa_10157 cc_10157 rfl rfl rfl rfl rfl (show c + 1 ≤ 601024 by omega) (show k + 6 ≤ 7293034 by omega) rfl (h1) rfl ?_
    refine f_istore (M := mL_law) (ls' := [_, _, _, _, _, _, _, _]) 285 dL_law_283 rfl rfl rfl ?_
    refine f_aload_n (M := mL_law) 286 dL_law_285 rfl rfl ?_
    refine f_aload_n (M := mL_law) 287 dL_law_286 rfl rfl ?_
    refine f_iload (M := mL_law) 289 dL_law_287 rfl rfl ?_
    refine f_iconst (M := mL_law) 290 dL_law_289 ki_1 rfl ?_
    refine f_iadd (M := mL_law) 291 dL_law_290 rfl ?_
    refine e_iaf (M := mL_law) (w := Lw) (f := xs) (j := (7 * N) + (1)) dL_law_291 (x_kk rfl) rfl (ix_add rfl kn_1) (by omega) (by omega) ?_
    refine f_aload_n (M := mL_law) 293 dL_law_292 rfl rfl ?_
    refine f_iload (M := mL_law) 295 dL_law_293 rfl rfl ?_
    refine f_iconst (M := mL_law) 296 dL_law_295 ki_2 rfl ?_
    refine f_iadd (M := mL_law) 297 dL_law_296 rfl ?_
    refine e_iaf (M := mL_law) (w := Lw) (f := xs) (j := (7 * N) + (2)) dL_law_297 (x_kk rfl) rfl (ix_add rfl kn_2) (by omega) (by omega) ?_
    refine f_aload_n (M := mL_law) 299 dL_law_298 rfl rfl ?_
    refine f_iload (M := mL_law) 301 dL_law_299 rfl rfl ?_
    refine f_iconst (M := mL_law) 302 dL_law_301 ki_3 rfl ?_
    refine f_iadd (M := mL_law) 303 dL_law_302 rfl ?_
    refine e_iaf (M := mL_law) (w := Lw) (f := xs) (j := (7 * N) + (3)) dL_law_303 (x_kk rfl) rfl (ix_add rfl kn_3) (by omega) (by omega) ?_
    refine f_aload_n (M := mL_law) 305 dL_law_304 rfl rfl ?_
    refine f_iload (M := mL_law) 307 dL_law_305 rfl rfl ?_
    refine f_iconst (M := mL_law) 308 dL_law_307 ki_4 rfl ?_
    refine f_iadd (M := mL_law) 309 dL_law_308 rfl ?_
    refine e_iaf (M := mL_law) (w := Lw) (f := xs) (j := (7 * N) + (4)) dL_law_309 (x_kk rfl) rfl (ix_add rfl kn_4) (by omega) (by omega) ?_
    refine f_aload_n (M := mL_law) 311 dL_law_310 rfl rfl ?_
    refine f_iload (M := mL_law) 313 dL_law_311 rfl rfl ?_
    refine f_iconst (M := mL_law) 314 dL_law_313 ki_5 rfl ?_
    refine f_iadd (M := mL_law) 315 dL_law_314 rfl ?_
    refine e_iaf (M := mL_law) (w := Lw) (f := xs) (j := (7 * N) + (5)) dL_law_315 (x_kk rfl) rfl (ix_add rfl kn_5) (by omega) (by omega) ?_
    refine e_cV (M := mL_law) [_] (c + 1) (k + 6) dL_law_316 pa_10162 pb_10162 cc_10162 rfl rfl rfl rfl rfl (show c + 1 ≤ 601024 by omega) (show k + 6 ≤ 7293034 by omega) rfl (h2) rfl ?_
    refine f_istore (M := mL_law) (ls' := [_, _, _, _, _, _, _, _]) 321 dL_law_319 rfl rfl rfl ?_
    refine f_aload_n (M := mL_law) 322 dL_law_321 rfl rfl ?_
    refine e_cV (M := mL_law) [_] (c + 1) (k + 6) dL_law_322 pa_10163 pb_10163 cc_10163 rfl rfl rfl rfl rfl (show c + 1 ≤ 601024 by omega) (show k + 6 ≤ 7293034 by omega) rfl (c_X9_thrown) rfl ?_
    refine f_iload (M := mL_law) 327 dL_law_325 rfl rfl ?_
    refine e_icmp_eqT (M := mL_law) 332 dL_law_327 rfl ht ?_
    refine f_iload (M := mL_law) 334 dL_law_332 rfl rfl ?_
    refine e_if_neF (M := mL_law) 349 dL_law_334 rfl (fun q => q z) ?_
    refine f_aload_n (M := mL_law) 338 dL_law_337 rfl rfl ?_
    refine f_iconst (M := mL_law) 339 dL_law_338 ki_0 rfl ?_
    refine e_lld (M := mL_law) (w := 1) (j := 0) dL_law_339 (x_kk rfl) rfl kn_0 (by omega) (by omega) ?_
    refine f_iload (M := mL_law) 342 dL_law_340 rfl rfl ?_
    refine f_i2l (M := mL_law) 343 dL_law_342 rfl ?_
    refine f_lcmp (M := mL_law) 344 dL_law_343 rfl ?_
    refine e_if_eqT (M := mL_law) 349 dL_law_344 rfl (lc_eq.mpr (hv z)) ?_
    refine f_goto (M := mL_law) 2888 dL_law_349 rfl ?_
    refine f_iinc (M := mL_law) (ls' := [_, _, _, _, _, _, _, _]) 2891 dL_law_2888 ki_7 rfl rfl rfl rfl ?_
    refine f_goto (M := mL_law) 23 dL_law_2891 rfl ?_
    rw [show Int32.ofNat (7 * N) + 7 = Int32.ofNat (7 * (N + 1)) from ix_add rfl kn_7]; exact hr
  · refine ⟨I2, L2, R1, some (.int k0), some (.int v), w7, c + 1, k + 6, T2, by omega, by omega, fun r hr => ?_⟩
    refine e_tsI (j := 0) (off := 208) 248 dL_law_40 rfl (by rw [hx]; decide) (by decide) rfl rfl ?_
    refine f_aload_n (M := mL_law) 249 dL_law_248 rfl rfl ?_
    refine f_aload_n (M := mL_law) 250 dL_law_249 rfl rfl ?_
    refine f_iload (M := mL_law) 252 dL_law_250 rfl rfl ?_
    refine f_iconst (M := mL_law) 253 dL_law_252 ki_1 rfl ?_
    refine f_iadd (M := mL_law) 254 dL_law_253 rfl ?_
    refine e_iaf (M := mL_law) (w := Lw) (f := xs) (j := (7 * N) + (1)) dL_law_254 (x_kk rfl) rfl (ix_add rfl kn_1) (by omega) (by omega) ?_
    refine f_aload_n (M := mL_law) 256 dL_law_255 rfl rfl ?_
    refine f_iload (M := mL_law) 258 dL_law_256 rfl rfl ?_
    refine f_iconst (M := mL_law) 259 dL_law_258 ki_2 rfl ?_
    refine f_iadd (M := mL_law) 260 dL_law_259 rfl ?_
    refine e_iaf (M := mL_law) (w := Lw) (f := xs) (j := (7 * N) + (2)) dL_law_260 (x_kk rfl) rfl (ix_add rfl kn_2) (by omega) (by omega) ?_
    refine f_aload_n (M := mL_law) 262 dL_law_261 rfl rfl ?_
    refine f_iload (M := mL_law) 264 dL_law_262 rfl rfl ?_
    refine f_iconst (M := mL_law) 265 dL_law_264 ki_3 rfl ?_
    refine f_iadd (M := mL_law) 266 dL_law_265 rfl ?_
    refine e_iaf (M := mL_law) (w := Lw) (f := xs) (j := (7 * N) + (3)) dL_law_266 (x_kk rfl) rfl (ix_add rfl kn_3) (by omega) (by omega) ?_
    refine f_aload_n (M := mL_law) 268 dL_law_267 rfl rfl ?_
    refine f_iload (M := mL_law) 270 dL_law_268 rfl rfl ?_
    refine f_iconst (M := mL_law) 271 dL_law_270 ki_4 rfl ?_
    refine f_iadd (M := mL_law) 272 dL_law_271 rfl ?_
    refine e_iaf (M := mL_law) (w := Lw) (f := xs) (j := (7 * N) + (4)) dL_law_272 (x_kk rfl) rfl (ix_add rfl kn_4) (by omega) (by omega) ?_
    refine f_aload_n (M := mL_law) 274 dL_law_273 rfl rfl ?_
    refine f_iload (M := mL_law) 276 dL_law_274 rfl rfl ?_
    refine f_iconst (M := mL_law) 277 dL_law_276 ki_5 rfl ?_
    refine f_iadd (M := mL_law) 278 dL_law_277 rfl ?_
    refine e_iaf (M := mL_law) (w := Lw) (f := xs) (j := (7 * N) + (5)) dL_law_278 (x_kk rfl) rfl (ix_add rfl kn_5) (by omega) (by omega) ?_
    refine f_aload_n (M := mL_law) 280 dL_law_279 rfl rfl ?_
    refine e_cS (M := mL_law) [_] (c + 1) (k + 6) dL_law_280 pa_10157 cc_10157 rfl rfl rfl rfl rfl (show c + 1 ≤ 601024 by omega) (show k + 6 ≤ 7293034 by omega) rfl (h1) rfl ?_
    refine f_istore (M := mL_law) (ls' := [_, _, _, _, _, _, _, _]) 285 dL_law_283 rfl rfl rfl ?_
    refine f_aload_n (M := mL_law) 286 dL_law_285 rfl rfl ?_
    refine f_aload_n (M := mL_law) 287 dL_law_286 rfl rfl ?_
    refine f_iload (M := mL_law) 289 dL_law_287 rfl rfl ?_
    refine f_iconst (M := mL_law) 290 dL_law_289 ki_1 rfl ?_
    refine f_iadd (M := mL_law) 291 dL_law_290 rfl ?_
    refine e_iaf (M := mL_law) (w := Lw) (f := xs) (j := (7 * N) + (1)) dL_law_291 (x_kk rfl) rfl (ix_add rfl kn_1) (by omega) (by omega) ?_
    refine f_aload_n (M := mL_law) 293 dL_law_292 rfl rfl ?_
    refine f_iload (M := mL_law) 295 dL_law_293 rfl rfl ?_
    refine f_iconst (M := mL_law) 296 dL_law_295 ki_2 rfl ?_
    refine f_iadd (M := mL_law) 297 dL_law_296 rfl ?_
    refine e_iaf (M := mL_law) (w := Lw) (f := xs) (j := (7 * N) + (2)) dL_law_297 (x_kk rfl) rfl (ix_add rfl kn_2) (by omega) (by omega) ?_
    refine f_aload_n (M := mL_law) 299 dL_law_298 rfl rfl ?_
    refine f_iload (M := mL_law) 301 dL_law_299 rfl rfl ?_
    refine f_iconst (M := mL_law) 302 dL_law_301 ki_3 rfl ?_
    refine f_iadd (M := mL_law) 303 dL_law_302 rfl ?_
    refine e_iaf (M := mL_law) (w := Lw) (f := xs) (j := (7 * N) + (3)) dL_law_303 (x_kk rfl) rfl (ix_add rfl kn_3) (by omega) (by omega) ?_
    refine f_aload_n (M := mL_law) 305 dL_law_304 rfl rfl ?_
    refine f_iload (M := mL_law) 307 dL_law_305 rfl rfl ?_
    refine f_iconst (M := mL_law) 308 dL_law_307 ki_4 rfl ?_
    refine f_iadd (M := mL_law) 309 dL_law_308 rfl ?_
    refine e_iaf (M := mL_law) (w := Lw) (f := xs) (j := (7 * N) + (4)) dL_law_309 (x_kk rfl) rfl (ix_add rfl kn_4) (by omega) (by omega) ?_
    refine f_aload_n (M := mL_law) 311 dL_law_310 rfl rfl ?_
    refine f_iload (M := mL_law) 313 dL_law_311 rfl rfl ?_
    refine f_iconst (M := mL_law) 314 dL_law_313 ki_5 rfl ?_
    refine f_iadd (M := mL_law) 315 dL_law_314 rfl ?_
    refine e_iaf (M := mL_law) (w := Lw) (f := xs) (j := (7 * N) + (5)) dL_law_315 (x_kk rfl) rfl (ix_add rfl kn_5) (by omega) (by omega) ?_
    refine e_cV (M := mL_law) [_] (c + 1) (k + 6) dL_law_316 pa_10162 pb_10162 cc_10162 rfl rfl rfl rfl rfl (show c + 1 ≤ 601024 by omega) (show k + 6 ≤ 7293034 by omega) rfl (h2) rfl ?_
    refine f_istore (M := mL_law) (ls' := [_, _, _, _, _, _, _, _]) 321 dL_law_319 rfl rfl rfl ?_
    refine f_aload_n (M := mL_law) 322 dL_law_321 rfl rfl ?_
    refine e_cV (M := mL_law) [_] (c + 1) (k + 6) dL_law_322 pa_10163 pb_10163 cc_10163 rfl rfl rfl rfl rfl (show c + 1 ≤ 601024 by omega) (show k + 6 ≤ 7293034 by omega) rfl (c_X9_thrown) rfl ?_
    refine f_iload (M := mL_law) 327 dL_law_325 rfl rfl ?_
    refine e_icmp_eqT (M := mL_law) 332 dL_law_327 rfl ht ?_
    refine f_iload (M := mL_law) 334 dL_law_332 rfl rfl ?_
    refine e_if_neT (M := mL_law) 349 dL_law_334 rfl z ?_
    refine f_goto (M := mL_law) 2888 dL_law_349 rfl ?_
    refine f_iinc (M := mL_law) (ls' := [_, _, _, _, _, _, _, _]) 2891 dL_law_2888 ki_7 rfl rfl rfl rfl ?_
    refine f_goto (M := mL_law) 23 dL_law_2891 rfl ?_
    rw [show Int32.ofNat (7 * N) + 7 = Int32.ofNat (7 * (N + 1)) from ix_add rfl kn_7]; exact hr
theorem lk_1 (hlen : 7 * N + 7 ≤ Lw) (hLw : Lw ≤ 3584) (T : y_T N I L R) (hN : N < 512) (hc : c ≤ 233 + 4 * N) (hk : k ≤ 14655 + 24 * N) (hx : xs (7 * N) &&& 63 = Int32.ofNat 1) : y_Nx Lw xs N I L R c k w5 w6 w7 := by
  have sm : y_OI N (Lw, xs) mL_load [.ref 0, .int (xs (7 * N + 1)), .ref 232] mX9_load [.ref 225, .int (xs (7 * N + 1))] I L R := sim_load (X := (Lw, xs)) T
  obtain ⟨k0, I1, L1, R1, v, I2, L2, h1, h2, ht, hv, T2⟩ := sm
  by_cases z : k0 = 0
  · refine ⟨I2, L2, R1, some (.int k0), some (.int v), w7, c + 1, k + 6, T2, by omega, by omega, fun r hr => ?_⟩
    refine e_tsI (j := 1) (off := 312) 352 dL_law_40 rfl (by rw [hx]; decide) (by decide) rfl rfl ?_
    refine f_aload_n (M := mL_law) 353 dL_law_352 rfl rfl ?_
    refine f_aload_n (M := mL_law) 354 dL_law_353 rfl rfl ?_
    refine f_iload (M := mL_law) 356 dL_law_354 rfl rfl ?_
    refine f_iconst (M := mL_law) 357 dL_law_356 ki_1 rfl ?_
    refine f_iadd (M := mL_law) 358 dL_law_357 rfl ?_
    refine e_iaf (M := mL_law) (w := Lw) (f := xs) (j := (7 * N) + (1)) dL_law_358 (x_kk rfl) rfl (ix_add rfl kn_1) (by omega) (by omega) ?_
    refine f_aload_n (M := mL_law) 360 dL_law_359 rfl rfl ?_
    refine e_cS (M := mL_law) [_] (c + 1) (k + 6) dL_law_360 pa_10166 cc_10166 rfl rfl rfl rfl rfl (show c + 1 ≤ 601024 by omega) (show k + 6 ≤ 7293034 by omega) rfl (h1) rfl ?_
    refine f_istore (M := mL_law) (ls' := [_, _, _, _, _, _, _, _]) 365 dL_law_363 rfl rfl rfl ?_
    refine f_aload_n (M := mL_law) 366 dL_law_365 rfl rfl ?_
    refine f_aload_n (M := mL_law) 367 dL_law_366 rfl rfl ?_
    refine f_iload (M := mL_law) 369 dL_law_367 rfl rfl ?_
    refine f_iconst (M := mL_law) 370 dL_law_369 ki_1 rfl ?_
    refine f_iadd (M := mL_law) 371 dL_law_370 rfl ?_
    refine e_iaf (M := mL_law) (w := Lw) (f := xs) (j := (7 * N) + (1)) dL_law_371 (x_kk rfl) rfl (ix_add rfl kn_1) (by omega) (by omega) ?_
    refine e_cV (M := mL_law) [_] (c + 1) (k + 6) dL_law_372 pa_10169 pb_10169 cc_10169 rfl rfl rfl rfl rfl (show c + 1 ≤ 601024 by omega) (show k + 6 ≤ 7293034 by omega) rfl (h2) rfl ?_
    refine f_istore (M := mL_law) (ls' := [_, _, _, _, _, _, _, _]) 377 dL_law_375 rfl rfl rfl ?_
    refine f_aload_n (M := mL_law) 378 dL_law_377 rfl rfl ?_
    refine e_cV (M := mL_law) [_] (c + 1) (k + 6) dL_law_378 pa_10163 pb_10163 cc_10163 rfl rfl rfl rfl rfl (show c + 1 ≤ 601024 by omega) (show k + 6 ≤ 7293034 by omega) rfl (c_X9_thrown) rfl ?_
    refine f_iload (M := mL_law) 383 dL_law_381 rfl rfl ?_
    refine e_icmp_eqT (M := mL_law) 388 dL_law_383 rfl ht ?_
    refine f_iload (M := mL_law) 390 dL_law_388 rfl rfl ?_
    refine e_if_neF (M := mL_law) 405 dL_law_390 rfl (fun q => q z) ?_
    refine f_aload_n (M := mL_law) 394 dL_law_393 rfl rfl ?_
    refine f_iconst (M := mL_law) 395 dL_law_394 ki_0 rfl ?_
    refine e_lld (M := mL_law) (w := 1) (j := 0) dL_law_395 (x_kk rfl) rfl kn_0 (by omega) (by omega) ?_
    refine f_iload (M := mL_law) 398 dL_law_396 rfl rfl ?_
    refine f_i2l (M := mL_law) 399 dL_law_398 rfl ?_
    refine f_lcmp (M := mL_law) 400 dL_law_399 rfl ?_
    refine e_if_eqT (M := mL_law) 405 dL_law_400 rfl (lc_eq.mpr (hv z)) ?_
    refine f_goto (M := mL_law) 2888 dL_law_405 rfl ?_
    refine f_iinc (M := mL_law) (ls' := [_, _, _, _, _, _, _, _]) 2891 dL_law_2888 ki_7 rfl rfl rfl rfl ?_
    refine f_goto (M := mL_law) 23 dL_law_2891 rfl ?_
    rw [show Int32.ofNat (7 * N) + 7 = Int32.ofNat (7 * (N + 1)) from ix_add rfl kn_7]; exact hr
  · refine ⟨I2, L2, R1, some (.int k0), some (.int v), w7, c + 1, k + 6, T2, by omega, by omega, fun r hr => ?_⟩
    refine e_tsI (j := 1) (off := 312) 352 dL_law_40 rfl (by rw [hx]; decide) (by decide) rfl rfl ?_
    refine f_aload_n (M := mL_law) 353 dL_law_352 rfl rfl ?_
    refine f_aload_n (M := mL_law) 354 dL_law_353 rfl rfl ?_
    refine f_iload (M := mL_law) 356 dL_law_354 rfl rfl ?_
    refine f_iconst (M := mL_law) 357 dL_law_356 ki_1 rfl ?_
    refine f_iadd (M := mL_law) 358 dL_law_357 rfl ?_
    refine e_iaf (M := mL_law) (w := Lw) (f := xs) (j := (7 * N) + (1)) dL_law_358 (x_kk rfl) rfl (ix_add rfl kn_1) (by omega) (by omega) ?_
    refine f_aload_n (M := mL_law) 360 dL_law_359 rfl rfl ?_
    refine e_cS (M := mL_law) [_] (c + 1) (k + 6) dL_law_360 pa_10166 cc_10166 rfl rfl rfl rfl rfl (show c + 1 ≤ 601024 by omega) (show k + 6 ≤ 7293034 by omega) rfl (h1) rfl ?_
    refine f_istore (M := mL_law) (ls' := [_, _, _, _, _, _, _, _]) 365 dL_law_363 rfl rfl rfl ?_
    refine f_aload_n (M := mL_law) 366 dL_law_365 rfl rfl ?_
    refine f_aload_n (M := mL_law) 367 dL_law_366 rfl rfl ?_
    refine f_iload (M := mL_law) 369 dL_law_367 rfl rfl ?_
    refine f_iconst (M := mL_law) 370 dL_law_369 ki_1 rfl ?_
    refine f_iadd (M := mL_law) 371 dL_law_370 rfl ?_
    refine e_iaf (M := mL_law) (w := Lw) (f := xs) (j := (7 * N) + (1)) dL_law_371 (x_kk rfl) rfl (ix_add rfl kn_1) (by omega) (by omega) ?_
    refine e_cV (M := mL_law) [_] (c + 1) (k + 6) dL_law_372 pa_10169 pb_10169 cc_10169 rfl rfl rfl rfl rfl (show c + 1 ≤ 601024 by omega) (show k + 6 ≤ 7293034 by omega) rfl (h2) rfl ?_
    refine f_istore (M := mL_law) (ls' := [_, _, _, _, _, _, _, _]) 377 dL_law_375 rfl rfl rfl ?_
    refine f_aload_n (M := mL_law) 378 dL_law_377 rfl rfl ?_
    refine e_cV (M := mL_law) [_] (c + 1) (k + 6) dL_law_378 pa_10163 pb_10163 cc_10163 rfl rfl rfl rfl rfl (show c + 1 ≤ 601024 by omega) (show k + 6 ≤ 7293034 by omega) rfl (c_X9_thrown) rfl ?_
    refine f_iload (M := mL_law) 383 dL_law_381 rfl rfl ?_
    refine e_icmp_eqT (M := mL_law) 388 dL_law_383 rfl ht ?_
    refine f_iload (M := mL_law) 390 dL_law_388 rfl rfl ?_
    refine e_if_neT (M := mL_law) 405 dL_law_390 rfl z ?_
    refine f_goto (M := mL_law) 2888 dL_law_405 rfl ?_
    refine f_iinc (M := mL_law) (ls' := [_, _, _, _, _, _, _, _]) 2891 dL_law_2888 ki_7 rfl rfl rfl rfl ?_
    refine f_goto (M := mL_law) 23 dL_law_2891 rfl ?_
    rw [show Int32.ofNat (7 * N) + 7 = Int32.ofNat (7 * (N + 1)) from ix_add rfl kn_7]; exact hr
end
end

/-! ===== the law, second: its cases (laid by wip/whole/src/law2.py) ===== -/
section
variable {X : x_X} {I : Nat → Nat → Int32} {L : Nat → Nat → Int64} {R : Nat → Nat → Option Nat} {N : Nat}
section
variable {M : x_MI} {pc : Nat} {ls : x_Ls} {st : List Value} {n c k : Nat} {r : x_O × x_Mem × Nat}
theorem e_tsI {x : Int32} {dflt lo hi off : Int} {offs : Array Int} {len j : Nat} (t : Nat) (hd : decode (x_mb M) pc = .ok (.tableswitch dflt lo hi offs, len)) (hl : x_lenOK (.tableswitch dflt lo hi offs) len = true) (hx : x.toInt = lo + j) (hh : lo + j ≤ hi) (ho : offs[j]? = some off) (ht : x_jm pc off = some t) (kk : x_Ev X M t ls st ((I, L, R), n, c, k) r) : x_Ev X M pc ls (.int x :: st) ((I, L, R), n, c, k) r := by
  refine e_step hd hl ?_ kk
  unfold x_step
  dsimp only
  rw [if_neg (by omega), show (x.toInt - lo).toNat = j by omega, ho]
  dsimp only
  rw [ht]
  rfl
theorem e_tsD {x : Int32} {dflt lo hi : Int} {offs : Array Int} {len : Nat} (t : Nat) (hd : decode (x_mb M) pc = .ok (.tableswitch dflt lo hi offs, len)) (hl : x_lenOK (.tableswitch dflt lo hi offs) len = true) (hx : x.toInt < lo ∨ hi < x.toInt) (ht : x_jm pc dflt = some t) (kk : x_Ev X M t ls st ((I, L, R), n, c, k) r) : x_Ev X M pc ls (.int x :: st) ((I, L, R), n, c, k) r := by
  refine e_step hd hl ?_ kk
  unfold x_step
  dsimp only
  rw [if_pos hx, ht]
  rfl
end
def y_OZ (N : Nat) (X : x_X) (W : x_MI) (ws : List Value) (M : x_MI) (ms : List Value) (I : Nat → Nat → Int32) (L : Nat → Nat → Int64) (R : Nat → Nat → Option Nat) : Prop := ∃ (k : Int32) (I1 : Nat → Nat → Int32) (L1 : Nat → Nat → Int64) (R1 : Nat → Nat → Option Nat) (v : Int32) (I2 : Nat → Nat → Int32) (L2 : Nat → Nat → Int64), (v = 0 ∨ v = 1) ∧ x_Cv X W ws (I, L, R) 233 (.inl (some (.int k)), (I1, L1, R1), 233) ∧ x_Cv X M ms (I1, L1, R1) 233 (.inl (some (.int v)), (I2, L2, R1), 233) ∧ I2 225 6 = k ∧ (k = 0 → L2 232 0 = v.toInt64) ∧ y_T (N + 1) I2 L2 R1
section
variable {W M : x_MI} {ws ms : List Value} {k v : Int32}
theorem OZ_x (T : y_T N I L R) (hk : ¬ k = 0) (h1 : x_Cv X W ws (I, L, R) 233 (.inl (some (.int k)), (I, L, R), 233)) (h2 : x_Cv X M ms (I, L, R) 233 (.inl (some (.int 0)), (x_tw I k, L, R), 233)) : y_OZ N X W ws M ms I L R :=
  ⟨k, I, L, R, 0, _, _, Or.inl rfl, h1, h2, rfl, fun z => absurd z hk, T_tw T⟩
theorem OZ_q (hv : v = 0 ∨ v = 1) (T : y_T N I L R) (h1 : x_Cv X W ws (I, L, R) 233 (.inl (some (.int 0)), (I, va_up L 232 (va_up (L 232) 0 v.toInt64), R), 233)) (h2 : x_Cv X M ms (I, va_up L 232 (va_up (L 232) 0 v.toInt64), R) 233 (.inl (some (.int v)), (x_tw I 0, va_up L 232 (va_up (L 232) 0 v.toInt64), R), 233)) : y_OZ N X W ws M ms I L R :=
  ⟨0, _, _, R, v, _, _, hv, h1, h2, rfl, fun _ => rfl, T_tw (T_o T)⟩
end
theorem sim_isAccurateZ (T : y_T N I L R) {v : Int32} {p : Int32} : y_OZ N X mL_isAccurate [.ref 0, .int v, .int p, .ref 232] mX9_isAccurate [.ref 225, .int v, .int p] I L R := by
  have T0 := T
  obtain ⟨a, b, kn, ks, bf, bn, ep, ⟨β, δ, γ, ν, hB⟩, hM, hI⟩ := T
  have H : y_CS N I L R β a b := ⟨hM.1, hB.1.2.1, hB.1.2.2.2.2.1, hB.2.2.2.2.2.1, hI.1⟩
  obtain ⟨Ns, Np, Nl, Nm, Z⟩ := Z_of hI.1
  have hR := hM.1
  have ha : I 226 = a := hM.2.1
  have hb : L 229 = b := hM.2.2.1
  subst ha
  subst hb
  obtain ⟨hNs, hn, hNp, hp, hNl, hl, hNm, hmm⟩ := id Z
  by_cases h0 : v = -1 ∨ (0 ≤ v ∧ v ≤ I 226 8 - 1)
  · skip
    by_cases h1 : 1 ≤ p ∧ p ≤ 20
    · skip
      by_cases h2 : 2 ≤ I 226 9
      · skip
        by_cases h : sp_acc (I 226) v p Np
        · exact OZ_q (v := 1) (Or.inr rfl) T0 (w_isAccurate_t (ko_isAccurate_t H Z h0 h1 h2 h)) (mo_isAccurate_t hR Z h0 h1 h2 h)
        · exact OZ_q (v := 0) (Or.inl rfl) T0 (w_isAccurate_f (ko_isAccurate_f H Z h0 h1 h2 h)) (mo_isAccurate_f hR Z h0 h1 h2 h)
      · exact OZ_x T0 (by decide) (w_isAccurate_x0 (kf_isAccurate_2 H Z h0 h1 h2)) (mf_isAccurate_2 hR Z h0 h1 h2)
    · exact OZ_x T0 (by decide) (w_isAccurate_x1 (kf_isAccurate_1 H Z h0 h1)) (mf_isAccurate_1 hR Z h0 h1)
  · exact OZ_x T0 (by decide) (w_isAccurate_x2 (kf_isAccurate_0 H Z h0)) (mf_isAccurate_0 hR Z h0)
def y_Nx (Lw : Nat) (xs : Nat → Int32) (N : Nat) (I : Nat → Nat → Int32) (L : Nat → Nat → Int64) (R : Nat → Nat → Option Nat) (c k : Nat) (w5 w6 w7 : Option Value) : Prop := ∃ I' L' R' v5 v6 v7 c' k', y_T (N + 1) I' L' R' ∧ c' ≤ c + 4 ∧ k' ≤ k + 24 ∧ ∀ r, x_Ev (Lw, xs) mL_law 23 [some (.ref 1000), some (.ref 0), some (.ref 225), some (.ref 232), some (.int (Int32.ofNat (7 * (N + 1)))), v5, v6, v7] [] ((I', L', R'), 233, c', k') r → x_Ev (Lw, xs) mL_law 40 [some (.ref 1000), some (.ref 0), some (.ref 225), some (.ref 232), some (.int (Int32.ofNat (7 * N))), w5, w6, w7] [.int (xs (7 * N) &&& 63)] ((I, L, R), 233, c, k) r
section
variable {Lw c k : Nat} {xs : Nat → Int32} {w5 w6 w7 : Option Value}
theorem law_0 (hlen : 7 * N + 7 ≤ Lw) (hLw : Lw ≤ 3584) (T : y_T N I L R) (hN : N < 512) (hc : c ≤ 233 + 4 * N) (hk : k ≤ 14655 + 24 * N) (hx : xs (7 * N) &&& 63 = Int32.ofNat 0) : y_Nx Lw xs N I L R c k w5 w6 w7 := by
  have sm : y_OI N (Lw, xs) mL_append [.ref 0, .int (xs (7 * N + 1)), .int (xs (7 * N + 2)), .int (xs (7 * N + 3)), .int (xs (7 * N + 4)), .int (xs (7 * N + 5)), .ref 232] mX9_append [.ref 225, .int (xs (7 * N + 1)), .int (xs (7 * N + 2)), .int (xs (7 * N + 3)), .int (xs (7 * N + 4)), .int (xs (7 * N + 5))] I L R := sim_append (X := (Lw, xs)) T
  obtain ⟨k0, I1, L1, R1, v, I2, L2, h1, h2, ht, hv, T2⟩ := sm
  by_cases z : k0 = 0
  · refine ⟨I2, L2, R1, some (.int k0), some (.int v), w7, c + 1, k + 6, T2, by omega, by omega, fun r hr => ?_⟩
    refine e_tsI (j := 0) 248 dL_law_40 rfl (by rw [hx]; decide) (by decide) rfl rfl ?_
    refine f_aload_n (M := mL_law) 249 dL_law_248 rfl rfl ?_
    refine f_aload_n (M := mL_law) 250 dL_law_249 rfl rfl ?_
    refine f_iload (M := mL_law) 252 dL_law_250 rfl rfl ?_
    refine f_iconst (M := mL_law) 253 dL_law_252 ki_1 rfl ?_
    refine f_iadd (M := mL_law) 254 dL_law_253 rfl ?_
    refine e_iaf (M := mL_law) (w := Lw) (f := xs) (j := (7 * N) + (1)) dL_law_254 (x_kk rfl) rfl (ix_add rfl kn_1) (by omega) (by omega) ?_
    refine f_aload_n (M := mL_law) 256 dL_law_255 rfl rfl ?_
    refine f_iload (M := mL_law) 258 dL_law_256 rfl rfl ?_
    refine f_iconst (M := mL_law) 259 dL_law_258 ki_2 rfl ?_
    refine f_iadd (M := mL_law) 260 dL_law_259 rfl ?_
    refine e_iaf (M := mL_law) (w := Lw) (f := xs) (j := (7 * N) + (2)) dL_law_260 (x_kk rfl) rfl (ix_add rfl kn_2) (by omega) (by omega) ?_
    refine f_aload_n (M := mL_law) 262 dL_law_261 rfl rfl ?_
    refine f_iload (M := mL_law) 264 dL_law_262 rfl rfl ?_
    refine f_iconst (M := mL_law) 265 dL_law_264 ki_3 rfl ?_
    refine f_iadd (M := mL_law) 266 dL_law_265 rfl ?_
    refine e_iaf (M := mL_law) (w := Lw) (f := xs) (j := (7 * N) + (3)) dL_law_266 (x_kk rfl) rfl (ix_add rfl kn_3) (by omega) (by omega) ?_
    refine f_aload_n (M := mL_law) 268 dL_law_267 rfl rfl ?_
    refine f_iload (M := mL_law) 270 dL_law_268 rfl rfl ?_
    refine f_iconst (M := mL_law) 271 dL_law_270 ki_4 rfl ?_
    refine f_iadd (M := mL_law) 272 dL_law_271 rfl ?_
    refine e_iaf (M := mL_law) (w := Lw) (f := xs) (j := (7 * N) + (4)) dL_law_272 (x_kk rfl) rfl (ix_add rfl kn_4) (by omega) (by omega) ?_
    refine f_aload_n (M := mL_law) 274 dL_law_273 rfl rfl ?_
    refine f_iload (M := mL_law) 276 dL_law_274 rfl rfl ?_
    refine f_iconst (M := mL_law) 277 dL_law_276 ki_5 rfl ?_
    refine f_iadd (M := mL_law) 278 dL_law_277 rfl ?_
    refine e_iaf (M := mL_law) (w := Lw) (f := xs) (j := (7 * N) + (5)) dL_law_278 (x_kk rfl) rfl (ix_add rfl kn_5) (by omega) (by omega) ?_
    refine f_aload_n (M := mL_law) 280 dL_law_279 rfl rfl ?_
    refine e_cS (M := mL_law) [_] (c + 1) (k + 6) dL_law_280 pa_10157 cc_10157 rfl rfl rfl rfl rfl (show c + 1 ≤ 601024 by omega) (show k + 6 ≤ 7293034 by omega) rfl (h1) rfl ?_
    refine f_istore (M := mL_law) (ls' := [_, _, _, _, _, _, _, _]) 285 dL_law_283 rfl rfl rfl ?_
    refine f_aload_n (M := mL_law) 286 dL_law_285 rfl rfl ?_
    refine f_aload_n (M := mL_law) 287 dL_law_286 rfl rfl ?_
    refine f_iload (M := mL_law) 289 dL_law_287 rfl rfl ?_
    refine f_iconst (M := mL_law) 290 dL_law_289 ki_1 rfl ?_
    refine f_iadd (M := mL_law) 291 dL_law_290 rfl ?_
    refine e_iaf (M := mL_law) (w := Lw) (f := xs) (j := (7 * N) + (1)) dL_law_291 (x_kk rfl) rfl (ix_add rfl kn_1) (by omega) (by omega) ?_
    refine f_aload_n (M := mL_law) 293 dL_law_292 rfl rfl ?_
    refine f_iload (M := mL_law) 295 dL_law_293 rfl rfl ?_
    refine f_iconst (M := mL_law) 296 dL_law_295 ki_2 rfl ?_
    refine f_iadd (M := mL_law) 297 dL_law_296 rfl ?_
    refine e_iaf (M := mL_law) (w := Lw) (f := xs) (j := (7 * N) + (2)) dL_law_297 (x_kk rfl) rfl (ix_add rfl kn_2) (by omega) (by omega) ?_
    refine f_aload_n (M := mL_law) 299 dL_law_298 rfl rfl ?_
    refine f_iload (M := mL_law) 301 dL_law_299 rfl rfl ?_
    refine f_iconst (M := mL_law) 302 dL_law_301 ki_3 rfl ?_
    refine f_iadd (M := mL_law) 303 dL_law_302 rfl ?_
    refine e_iaf (M := mL_law) (w := Lw) (f := xs) (j := (7 * N) + (3)) dL_law_303 (x_kk rfl) rfl (ix_add rfl kn_3) (by omega) (by omega) ?_
    refine f_aload_n (M := mL_law) 305 dL_law_304 rfl rfl ?_
    refine f_iload (M := mL_law) 307 dL_law_305 rfl rfl ?_
    refine f_iconst (M := mL_law) 308 dL_law_307 ki_4 rfl ?_
    refine f_iadd (M := mL_law) 309 dL_law_308 rfl ?_
    refine e_iaf (M := mL_law) (w := Lw) (f := xs) (j := (7 * N) + (4)) dL_law_309 (x_kk rfl) rfl (ix_add rfl kn_4) (by omega) (by omega) ?_
    refine f_aload_n (M := mL_law) 311 dL_law_310 rfl rfl ?_
    refine f_iload (M := mL_law) 313 dL_law_311 rfl rfl ?_
    refine f_iconst (M := mL_law) 314 dL_law_313 ki_5 rfl ?_
    refine f_iadd (M := mL_law) 315 dL_law_314 rfl ?_
    refine e_iaf (M := mL_law) (w := Lw) (f := xs) (j := (7 * N) + (5)) dL_law_315 (x_kk rfl) rfl (ix_add rfl kn_5) (by omega) (by omega) ?_
    refine e_cV (M := mL_law) [_] (c + 1) (k + 6) dL_law_316 pa_10162 pb_10162 cc_10162 rfl rfl rfl rfl rfl (show c + 1 ≤ 601024 by omega) (show k + 6 ≤ 7293034 by omega) rfl (h2) rfl ?_
    refine f_istore (M := mL_law) (ls' := [_, _, _, _, _, _, _, _]) 321 dL_law_319 rfl rfl rfl ?_
    refine f_aload_n (M := mL_law) 322 dL_law_321 rfl rfl ?_
    refine e_cV (M := mL_law) [_] (c + 1) (k + 6) dL_law_322 pa_10163 pb_10163 cc_10163 rfl rfl rfl rfl rfl (show c + 1 ≤ 601024 by omega) (show k + 6 ≤ 7293034 by omega) rfl (c_X9_thrown) rfl ?_
    refine f_iload (M := mL_law) 327 dL_law_325 rfl rfl ?_
    refine e_icmp_eqT (M := mL_law) 332 dL_law_327 rfl ht ?_
    refine f_iload (M := mL_law) 334 dL_law_332 rfl rfl ?_
    refine e_if_neF (M := mL_law) 349 dL_law_334 rfl (fun q => q z) ?_
    refine f_aload_n (M := mL_law) 338 dL_law_337 rfl rfl ?_
    refine f_iconst (M := mL_law) 339 dL_law_338 ki_0 rfl ?_
    refine e_lld (M := mL_law) (w := 1) (j := 0) dL_law_339 (x_kk rfl) rfl kn_0 (by omega) (by omega) ?_
    refine f_iload (M := mL_law) 342 dL_law_340 rfl rfl ?_
    refine f_i2l (M := mL_law) 343 dL_law_342 rfl ?_
    refine f_lcmp (M := mL_law) 344 dL_law_343 rfl ?_
    refine e_if_eqT (M := mL_law) 349 dL_law_344 rfl (lc_eq.mpr (hv z)) ?_
    refine f_goto (M := mL_law) 2888 dL_law_349 rfl ?_
    refine f_iinc (M := mL_law) (ls' := [_, _, _, _, _, _, _, _]) 2891 dL_law_2888 ki_7 rfl rfl rfl rfl ?_
    refine f_goto (M := mL_law) 23 dL_law_2891 rfl ?_
    rw [show Int32.ofNat (7 * N) + 7 = Int32.ofNat (7 * (N + 1)) from ix_add rfl kn_7]; exact hr
  · refine ⟨I2, L2, R1, some (.int k0), some (.int v), w7, c + 1, k + 6, T2, by omega, by omega, fun r hr => ?_⟩
    refine e_tsI (j := 0) 248 dL_law_40 rfl (by rw [hx]; decide) (by decide) rfl rfl ?_
    refine f_aload_n (M := mL_law) 249 dL_law_248 rfl rfl ?_
    refine f_aload_n (M := mL_law) 250 dL_law_249 rfl rfl ?_
    refine f_iload (M := mL_law) 252 dL_law_250 rfl rfl ?_
    refine f_iconst (M := mL_law) 253 dL_law_252 ki_1 rfl ?_
    refine f_iadd (M := mL_law) 254 dL_law_253 rfl ?_
    refine e_iaf (M := mL_law) (w := Lw) (f := xs) (j := (7 * N) + (1)) dL_law_254 (x_kk rfl) rfl (ix_add rfl kn_1) (by omega) (by omega) ?_
    refine f_aload_n (M := mL_law) 256 dL_law_255 rfl rfl ?_
    refine f_iload (M := mL_law) 258 dL_law_256 rfl rfl ?_
    refine f_iconst (M := mL_law) 259 dL_law_258 ki_2 rfl ?_
    refine f_iadd (M := mL_law) 260 dL_law_259 rfl ?_
    refine e_iaf (M := mL_law) (w := Lw) (f := xs) (j := (7 * N) + (2)) dL_law_260 (x_kk rfl) rfl (ix_add rfl kn_2) (by omega) (by omega) ?_
    refine f_aload_n (M := mL_law) 262 dL_law_261 rfl rfl ?_
    refine f_iload (M := mL_law) 264 dL_law_262 rfl rfl ?_
    refine f_iconst (M := mL_law) 265 dL_law_264 ki_3 rfl ?_
    refine f_iadd (M := mL_law) 266 dL_law_265 rfl ?_
    refine e_iaf (M := mL_law) (w := Lw) (f := xs) (j := (7 * N) + (3)) dL_law_266 (x_kk rfl) rfl (ix_add rfl kn_3) (by omega) (by omega) ?_
    refine f_aload_n (M := mL_law) 268 dL_law_267 rfl rfl ?_
    refine f_iload (M := mL_law) 270 dL_law_268 rfl rfl ?_
    refine f_iconst (M := mL_law) 271 dL_law_270 ki_4 rfl ?_
    refine f_iadd (M := mL_law) 272 dL_law_271 rfl ?_
    refine e_iaf (M := mL_law) (w := Lw) (f := xs) (j := (7 * N) + (4)) dL_law_272 (x_kk rfl) rfl (ix_add rfl kn_4) (by omega) (by omega) ?_
    refine f_aload_n (M := mL_law) 274 dL_law_273 rfl rfl ?_
    refine f_iload (M := mL_law) 276 dL_law_274 rfl rfl ?_
    refine f_iconst (M := mL_law) 277 dL_law_276 ki_5 rfl ?_
    refine f_iadd (M := mL_law) 278 dL_law_277 rfl ?_
    refine e_iaf (M := mL_law) (w := Lw) (f := xs) (j := (7 * N) + (5)) dL_law_278 (x_kk rfl) rfl (ix_add rfl kn_5) (by omega) (by omega) ?_
    refine f_aload_n (M := mL_law) 280 dL_law_279 rfl rfl ?_
    refine e_cS (M := mL_law) [_] (c + 1) (k + 6) dL_law_280 pa_10157 cc_10157 rfl rfl rfl rfl rfl (show c + 1 ≤ 601024 by omega) (show k + 6 ≤ 7293034 by omega) rfl (h1) rfl ?_
    refine f_istore (M := mL_law) (ls' := [_, _, _, _, _, _, _, _]) 285 dL_law_283 rfl rfl rfl ?_
    refine f_aload_n (M := mL_law) 286 dL_law_285 rfl rfl ?_
    refine f_aload_n (M := mL_law) 287 dL_law_286 rfl rfl ?_
    refine f_iload (M := mL_law) 289 dL_law_287 rfl rfl ?_
    refine f_iconst (M := mL_law) 290 dL_law_289 ki_1 rfl ?_
    refine f_iadd (M := mL_law) 291 dL_law_290 rfl ?_
    refine e_iaf (M := mL_law) (w := Lw) (f := xs) (j := (7 * N) + (1)) dL_law_291 (x_kk rfl) rfl (ix_add rfl kn_1) (by omega) (by omega) ?_
    refine f_aload_n (M := mL_law) 293 dL_law_292 rfl rfl ?_
    refine f_iload (M := mL_law) 295 dL_law_293 rfl rfl ?_
    refine f_iconst (M := mL_law) 296 dL_law_295 ki_2 rfl ?_
    refine f_iadd (M := mL_law) 297 dL_law_296 rfl ?_
    refine e_iaf (M := mL_law) (w := Lw) (f := xs) (j := (7 * N) + (2)) dL_law_297 (x_kk rfl) rfl (ix_add rfl kn_2) (by omega) (by omega) ?_
    refine f_aload_n (M := mL_law) 299 dL_law_298 rfl rfl ?_
    refine f_iload (M := mL_law) 301 dL_law_299 rfl rfl ?_
    refine f_iconst (M := mL_law) 302 dL_law_301 ki_3 rfl ?_
    refine f_iadd (M := mL_law) 303 dL_law_302 rfl ?_
    refine e_iaf (M := mL_law) (w := Lw) (f := xs) (j := (7 * N) + (3)) dL_law_303 (x_kk rfl) rfl (ix_add rfl kn_3) (by omega) (by omega) ?_
    refine f_aload_n (M := mL_law) 305 dL_law_304 rfl rfl ?_
    refine f_iload (M := mL_law) 307 dL_law_305 rfl rfl ?_
    refine f_iconst (M := mL_law) 308 dL_law_307 ki_4 rfl ?_
    refine f_iadd (M := mL_law) 309 dL_law_308 rfl ?_
    refine e_iaf (M := mL_law) (w := Lw) (f := xs) (j := (7 * N) + (4)) dL_law_309 (x_kk rfl) rfl (ix_add rfl kn_4) (by omega) (by omega) ?_
    refine f_aload_n (M := mL_law) 311 dL_law_310 rfl rfl ?_
    refine f_iload (M := mL_law) 313 dL_law_311 rfl rfl ?_
    refine f_iconst (M := mL_law) 314 dL_law_313 ki_5 rfl ?_
    refine f_iadd (M := mL_law) 315 dL_law_314 rfl ?_
    refine e_iaf (M := mL_law) (w := Lw) (f := xs) (j := (7 * N) + (5)) dL_law_315 (x_kk rfl) rfl (ix_add rfl kn_5) (by omega) (by omega) ?_
    refine e_cV (M := mL_law) [_] (c + 1) (k + 6) dL_law_316 pa_10162 pb_10162 cc_10162 rfl rfl rfl rfl rfl (show c + 1 ≤ 601024 by omega) (show k + 6 ≤ 7293034 by omega) rfl (h2) rfl ?_
    refine f_istore (M := mL_law) (ls' := [_, _, _, _, _, _, _, _]) 321 dL_law_319 rfl rfl rfl ?_
    refine f_aload_n (M := mL_law) 322 dL_law_321 rfl rfl ?_
    refine e_cV (M := mL_law) [_] (c + 1) (k + 6) dL_law_322 pa_10163 pb_10163 cc_10163 rfl rfl rfl rfl rfl (show c + 1 ≤ 601024 by omega) (show k + 6 ≤ 7293034 by omega) rfl (c_X9_thrown) rfl ?_
    refine f_iload (M := mL_law) 327 dL_law_325 rfl rfl ?_
    refine e_icmp_eqT (M := mL_law) 332 dL_law_327 rfl ht ?_
    refine f_iload (M := mL_law) 334 dL_law_332 rfl rfl ?_
    refine e_if_neT (M := mL_law) 349 dL_law_334 rfl z ?_
    refine f_goto (M := mL_law) 2888 dL_law_349 rfl ?_
    refine f_iinc (M := mL_law) (ls' := [_, _, _, _, _, _, _, _]) 2891 dL_law_2888 ki_7 rfl rfl rfl rfl ?_
    refine f_goto (M := mL_law) 23 dL_law_2891 rfl ?_
    rw [show Int32.ofNat (7 * N) + 7 = Int32.ofNat (7 * (N + 1)) from ix_add rfl kn_7]; exact hr
theorem law_1 (hlen : 7 * N + 7 ≤ Lw) (hLw : Lw ≤ 3584) (T : y_T N I L R) (hN : N < 512) (hc : c ≤ 233 + 4 * N) (hk : k ≤ 14655 + 24 * N) (hx : xs (7 * N) &&& 63 = Int32.ofNat 1) : y_Nx Lw xs N I L R c k w5 w6 w7 := by
  have sm : y_OI N (Lw, xs) mL_load [.ref 0, .int (xs (7 * N + 1)), .ref 232] mX9_load [.ref 225, .int (xs (7 * N + 1))] I L R := sim_load (X := (Lw, xs)) T
  obtain ⟨k0, I1, L1, R1, v, I2, L2, h1, h2, ht, hv, T2⟩ := sm
  by_cases z : k0 = 0
  · refine ⟨I2, L2, R1, some (.int k0), some (.int v), w7, c + 1, k + 6, T2, by omega, by omega, fun r hr => ?_⟩
    refine e_tsI (j := 1) 352 dL_law_40 rfl (by rw [hx]; decide) (by decide) rfl rfl ?_
    refine f_aload_n (M := mL_law) 353 dL_law_352 rfl rfl ?_
    refine f_aload_n (M := mL_law) 354 dL_law_353 rfl rfl ?_
    refine f_iload (M := mL_law) 356 dL_law_354 rfl rfl ?_
    refine f_iconst (M := mL_law) 357 dL_law_356 ki_1 rfl ?_
    refine f_iadd (M := mL_law) 358 dL_law_357 rfl ?_
    refine e_iaf (M := mL_law) (w := Lw) (f := xs) (j := (7 * N) + (1)) dL_law_358 (x_kk rfl) rfl (ix_add rfl kn_1) (by omega) (by omega) ?_
    refine f_aload_n (M := mL_law) 360 dL_law_359 rfl rfl ?_
    refine e_cS (M := mL_law) [_] (c + 1) (k + 6) dL_law_360 pa_10166 cc_10166 rfl rfl rfl rfl rfl (show c + 1 ≤ 601024 by omega) (show k + 6 ≤ 7293034 by omega) rfl (h1) rfl ?_
    refine f_istore (M := mL_law) (ls' := [_, _, _, _, _, _, _, _]) 365 dL_law_363 rfl rfl rfl ?_
    refine f_aload_n (M := mL_law) 366 dL_law_365 rfl rfl ?_
    refine f_aload_n (M := mL_law) 367 dL_law_366 rfl rfl ?_
    refine f_iload (M := mL_law) 369 dL_law_367 rfl rfl ?_
    refine f_iconst (M := mL_law) 370 dL_law_369 ki_1 rfl ?_
    refine f_iadd (M := mL_law) 371 dL_law_370 rfl ?_
    refine e_iaf (M := mL_law) (w := Lw) (f := xs) (j := (7 * N) + (1)) dL_law_371 (x_kk rfl) rfl (ix_add rfl kn_1) (by omega) (by omega) ?_
    refine e_cV (M := mL_law) [_] (c + 1) (k + 6) dL_law_372 pa_10169 pb_10169 cc_10169 rfl rfl rfl rfl rfl (show c + 1 ≤ 601024 by omega) (show k + 6 ≤ 7293034 by omega) rfl (h2) rfl ?_
    refine f_istore (M := mL_law) (ls' := [_, _, _, _, _, _, _, _]) 377 dL_law_375 rfl rfl rfl ?_
    refine f_aload_n (M := mL_law) 378 dL_law_377 rfl rfl ?_
    refine e_cV (M := mL_law) [_] (c + 1) (k + 6) dL_law_378 pa_10163 pb_10163 cc_10163 rfl rfl rfl rfl rfl (show c + 1 ≤ 601024 by omega) (show k + 6 ≤ 7293034 by omega) rfl (c_X9_thrown) rfl ?_
    refine f_iload (M := mL_law) 383 dL_law_381 rfl rfl ?_
    refine e_icmp_eqT (M := mL_law) 388 dL_law_383 rfl ht ?_
    refine f_iload (M := mL_law) 390 dL_law_388 rfl rfl ?_
    refine e_if_neF (M := mL_law) 405 dL_law_390 rfl (fun q => q z) ?_
    refine f_aload_n (M := mL_law) 394 dL_law_393 rfl rfl ?_
    refine f_iconst (M := mL_law) 395 dL_law_394 ki_0 rfl ?_
    refine e_lld (M := mL_law) (w := 1) (j := 0) dL_law_395 (x_kk rfl) rfl kn_0 (by omega) (by omega) ?_
    refine f_iload (M := mL_law) 398 dL_law_396 rfl rfl ?_
    refine f_i2l (M := mL_law) 399 dL_law_398 rfl ?_
    refine f_lcmp (M := mL_law) 400 dL_law_399 rfl ?_
    refine e_if_eqT (M := mL_law) 405 dL_law_400 rfl (lc_eq.mpr (hv z)) ?_
    refine f_goto (M := mL_law) 2888 dL_law_405 rfl ?_
    refine f_iinc (M := mL_law) (ls' := [_, _, _, _, _, _, _, _]) 2891 dL_law_2888 ki_7 rfl rfl rfl rfl ?_
    refine f_goto (M := mL_law) 23 dL_law_2891 rfl ?_
    rw [show Int32.ofNat (7 * N) + 7 = Int32.ofNat (7 * (N + 1)) from ix_add rfl kn_7]; exact hr
  · refine ⟨I2, L2, R1, some (.int k0), some (.int v), w7, c + 1, k + 6, T2, by omega, by omega, fun r hr => ?_⟩
    refine e_tsI (j := 1) 352 dL_law_40 rfl (by rw [hx]; decide) (by decide) rfl rfl ?_
    refine f_aload_n (M := mL_law) 353 dL_law_352 rfl rfl ?_
    refine f_aload_n (M := mL_law) 354 dL_law_353 rfl rfl ?_
    refine f_iload (M := mL_law) 356 dL_law_354 rfl rfl ?_
    refine f_iconst (M := mL_law) 357 dL_law_356 ki_1 rfl ?_
    refine f_iadd (M := mL_law) 358 dL_law_357 rfl ?_
    refine e_iaf (M := mL_law) (w := Lw) (f := xs) (j := (7 * N) + (1)) dL_law_358 (x_kk rfl) rfl (ix_add rfl kn_1) (by omega) (by omega) ?_
    refine f_aload_n (M := mL_law) 360 dL_law_359 rfl rfl ?_
    refine e_cS (M := mL_law) [_] (c + 1) (k + 6) dL_law_360 pa_10166 cc_10166 rfl rfl rfl rfl rfl (show c + 1 ≤ 601024 by omega) (show k + 6 ≤ 7293034 by omega) rfl (h1) rfl ?_
    refine f_istore (M := mL_law) (ls' := [_, _, _, _, _, _, _, _]) 365 dL_law_363 rfl rfl rfl ?_
    refine f_aload_n (M := mL_law) 366 dL_law_365 rfl rfl ?_
    refine f_aload_n (M := mL_law) 367 dL_law_366 rfl rfl ?_
    refine f_iload (M := mL_law) 369 dL_law_367 rfl rfl ?_
    refine f_iconst (M := mL_law) 370 dL_law_369 ki_1 rfl ?_
    refine f_iadd (M := mL_law) 371 dL_law_370 rfl ?_
    refine e_iaf (M := mL_law) (w := Lw) (f := xs) (j := (7 * N) + (1)) dL_law_371 (x_kk rfl) rfl (ix_add rfl kn_1) (by omega) (by omega) ?_
    refine e_cV (M := mL_law) [_] (c + 1) (k + 6) dL_law_372 pa_10169 pb_10169 cc_10169 rfl rfl rfl rfl rfl (show c + 1 ≤ 601024 by omega) (show k + 6 ≤ 7293034 by omega) rfl (h2) rfl ?_
    refine f_istore (M := mL_law) (ls' := [_, _, _, _, _, _, _, _]) 377 dL_law_375 rfl rfl rfl ?_
    refine f_aload_n (M := mL_law) 378 dL_law_377 rfl rfl ?_
    refine e_cV (M := mL_law) [_] (c + 1) (k + 6) dL_law_378 pa_10163 pb_10163 cc_10163 rfl rfl rfl rfl rfl (show c + 1 ≤ 601024 by omega) (show k + 6 ≤ 7293034 by omega) rfl (c_X9_thrown) rfl ?_
    refine f_iload (M := mL_law) 383 dL_law_381 rfl rfl ?_
    refine e_icmp_eqT (M := mL_law) 388 dL_law_383 rfl ht ?_
    refine f_iload (M := mL_law) 390 dL_law_388 rfl rfl ?_
    refine e_if_neT (M := mL_law) 405 dL_law_390 rfl z ?_
    refine f_goto (M := mL_law) 2888 dL_law_405 rfl ?_
    refine f_iinc (M := mL_law) (ls' := [_, _, _, _, _, _, _, _]) 2891 dL_law_2888 ki_7 rfl rfl rfl rfl ?_
    refine f_goto (M := mL_law) 23 dL_law_2891 rfl ?_
    rw [show Int32.ofNat (7 * N) + 7 = Int32.ofNat (7 * (N + 1)) from ix_add rfl kn_7]; exact hr
theorem law_2 (hlen : 7 * N + 7 ≤ Lw) (hLw : Lw ≤ 3584) (T : y_T N I L R) (hN : N < 512) (hc : c ≤ 233 + 4 * N) (hk : k ≤ 14655 + 24 * N) (hx : xs (7 * N) &&& 63 = Int32.ofNat 2) : y_Nx Lw xs N I L R c k w5 w6 w7 := by
  have sm : y_DI N (Lw, xs) mX8_errorPosition [.ref 0] mX9_errorPosition [.ref 225] I L R := sim_errorPosition (X := (Lw, xs)) T
  obtain ⟨v, I2, L2, h1, h2, T2⟩ := sm
  refine ⟨I2, L2, R, w5, w6, w7, c + 0, k + 0, T2, by omega, by omega, fun r hr => ?_⟩
  refine e_tsI (j := 2) 408 dL_law_40 rfl (by rw [hx]; decide) (by decide) rfl rfl ?_
  refine f_aload_n (M := mL_law) 409 dL_law_408 rfl rfl ?_
  refine e_cV (M := mL_law) [_] (c + 0) (k + 0) dL_law_409 pa_10170 pb_10170 cc_10170 rfl rfl rfl rfl rfl (show c + 0 ≤ 601024 by omega) (show k + 0 ≤ 7293034 by omega) rfl (h1) rfl ?_
  refine f_aload_n (M := mL_law) 413 dL_law_412 rfl rfl ?_
  refine e_cV (M := mL_law) [_, _] (c + 0) (k + 0) dL_law_413 pa_10173 pb_10173 cc_10173 rfl rfl rfl rfl rfl (show c + 0 ≤ 601024 by omega) (show k + 0 ≤ 7293034 by omega) rfl (h2) rfl ?_
  refine e_icmp_eqT (M := mL_law) 2888 dL_law_416 rfl rfl ?_
  refine f_iinc (M := mL_law) (ls' := [_, _, _, _, _, _, _, _]) 2891 dL_law_2888 ki_7 rfl rfl rfl rfl ?_
  refine f_goto (M := mL_law) 23 dL_law_2891 rfl ?_
  rw [show Int32.ofNat (7 * N) + 7 = Int32.ofNat (7 * (N + 1)) from ix_add rfl kn_7]; exact hr
theorem law_3 (hlen : 7 * N + 7 ≤ Lw) (hLw : Lw ≤ 3584) (T : y_T N I L R) (hN : N < 512) (hc : c ≤ 233 + 4 * N) (hk : k ≤ 14655 + 24 * N) (hx : xs (7 * N) &&& 63 = Int32.ofNat 3) : y_Nx Lw xs N I L R c k w5 w6 w7 := by
  have sm : y_DI N (Lw, xs) mX8_phase [.ref 0] mX9_phase [.ref 225] I L R := sim_phase (X := (Lw, xs)) T
  obtain ⟨v, I2, L2, h1, h2, T2⟩ := sm
  refine ⟨I2, L2, R, w5, w6, w7, c + 0, k + 0, T2, by omega, by omega, fun r hr => ?_⟩
  refine e_tsI (j := 3) 421 dL_law_40 rfl (by rw [hx]; decide) (by decide) rfl rfl ?_
  refine f_aload_n (M := mL_law) 422 dL_law_421 rfl rfl ?_
  refine e_cV (M := mL_law) [_] (c + 0) (k + 0) dL_law_422 pa_10174 pb_10174 cc_10174 rfl rfl rfl rfl rfl (show c + 0 ≤ 601024 by omega) (show k + 0 ≤ 7293034 by omega) rfl (h1) rfl ?_
  refine f_aload_n (M := mL_law) 426 dL_law_425 rfl rfl ?_
  refine e_cV (M := mL_law) [_, _] (c + 0) (k + 0) dL_law_426 pa_10177 pb_10177 cc_10177 rfl rfl rfl rfl rfl (show c + 0 ≤ 601024 by omega) (show k + 0 ≤ 7293034 by omega) rfl (h2) rfl ?_
  refine e_icmp_eqT (M := mL_law) 2888 dL_law_429 rfl rfl ?_
  refine f_iinc (M := mL_law) (ls' := [_, _, _, _, _, _, _, _]) 2891 dL_law_2888 ki_7 rfl rfl rfl rfl ?_
  refine f_goto (M := mL_law) 23 dL_law_2891 rfl ?_
  rw [show Int32.ofNat (7 * N) + 7 = Int32.ofNat (7 * (N + 1)) from ix_add rfl kn_7]; exact hr
theorem law_4 (hlen : 7 * N + 7 ≤ Lw) (hLw : Lw ≤ 3584) (T : y_T N I L R) (hN : N < 512) (hc : c ≤ 233 + 4 * N) (hk : k ≤ 14655 + 24 * N) (hx : xs (7 * N) &&& 63 = Int32.ofNat 4) : y_Nx Lw xs N I L R c k w5 w6 w7 := by
  have sm : y_DI N (Lw, xs) mX8_plotCount [.ref 0] mX9_plotCount [.ref 225] I L R := sim_plotCount (X := (Lw, xs)) T
  obtain ⟨v, I2, L2, h1, h2, T2⟩ := sm
  refine ⟨I2, L2, R, w5, w6, w7, c + 0, k + 0, T2, by omega, by omega, fun r hr => ?_⟩
  refine e_tsI (j := 4) 434 dL_law_40 rfl (by rw [hx]; decide) (by decide) rfl rfl ?_
  refine f_aload_n (M := mL_law) 435 dL_law_434 rfl rfl ?_
  refine e_cV (M := mL_law) [_] (c + 0) (k + 0) dL_law_435 pa_10178 pb_10178 cc_10178 rfl rfl rfl rfl rfl (show c + 0 ≤ 601024 by omega) (show k + 0 ≤ 7293034 by omega) rfl (h1) rfl ?_
  refine f_aload_n (M := mL_law) 439 dL_law_438 rfl rfl ?_
  refine e_cV (M := mL_law) [_, _] (c + 0) (k + 0) dL_law_439 pa_10181 pb_10181 cc_10181 rfl rfl rfl rfl rfl (show c + 0 ≤ 601024 by omega) (show k + 0 ≤ 7293034 by omega) rfl (h2) rfl ?_
  refine e_icmp_eqT (M := mL_law) 2888 dL_law_442 rfl rfl ?_
  refine f_iinc (M := mL_law) (ls' := [_, _, _, _, _, _, _, _]) 2891 dL_law_2888 ki_7 rfl rfl rfl rfl ?_
  refine f_goto (M := mL_law) 23 dL_law_2891 rfl ?_
  rw [show Int32.ofNat (7 * N) + 7 = Int32.ofNat (7 * (N + 1)) from ix_add rfl kn_7]; exact hr
theorem law_5 (hlen : 7 * N + 7 ≤ Lw) (hLw : Lw ≤ 3584) (T : y_T N I L R) (hN : N < 512) (hc : c ≤ 233 + 4 * N) (hk : k ≤ 14655 + 24 * N) (hx : xs (7 * N) &&& 63 = Int32.ofNat 5) : y_Nx Lw xs N I L R c k w5 w6 w7 := by
  have sm : y_OI N (Lw, xs) mL_addPlot [.ref 0, .int (xs (7 * N + 1)), .int (xs (7 * N + 2)), .int (xs (7 * N + 3)), .int (xs (7 * N + 4)), .int (xs (7 * N + 5)), .int (xs (7 * N + 6)), .ref 232] mX9_addPlot [.ref 225, .int (xs (7 * N + 1)), .int (xs (7 * N + 2)), .int (xs (7 * N + 3)), .int (xs (7 * N + 4)), .int (xs (7 * N + 5)), .int (xs (7 * N + 6))] I L R := sim_addPlot (X := (Lw, xs)) T
  obtain ⟨k0, I1, L1, R1, v, I2, L2, h1, h2, ht, hv, T2⟩ := sm
  by_cases z : k0 = 0
  · refine ⟨I2, L2, R1, some (.int k0), some (.int v), w7, c + 2, k + 12, T2, by omega, by omega, fun r hr => ?_⟩
    refine e_tsI (j := 5) 447 dL_law_40 rfl (by rw [hx]; decide) (by decide) rfl rfl ?_
    refine f_aload_n (M := mL_law) 448 dL_law_447 rfl rfl ?_
    refine f_aload_n (M := mL_law) 449 dL_law_448 rfl rfl ?_
    refine f_iload (M := mL_law) 451 dL_law_449 rfl rfl ?_
    refine f_iconst (M := mL_law) 452 dL_law_451 ki_1 rfl ?_
    refine f_iadd (M := mL_law) 453 dL_law_452 rfl ?_
    refine e_iaf (M := mL_law) (w := Lw) (f := xs) (j := (7 * N) + (1)) dL_law_453 (x_kk rfl) rfl (ix_add rfl kn_1) (by omega) (by omega) ?_
    refine f_aload_n (M := mL_law) 455 dL_law_454 rfl rfl ?_
    refine f_iload (M := mL_law) 457 dL_law_455 rfl rfl ?_
    refine f_iconst (M := mL_law) 458 dL_law_457 ki_2 rfl ?_
    refine f_iadd (M := mL_law) 459 dL_law_458 rfl ?_
    refine e_iaf (M := mL_law) (w := Lw) (f := xs) (j := (7 * N) + (2)) dL_law_459 (x_kk rfl) rfl (ix_add rfl kn_2) (by omega) (by omega) ?_
    refine f_aload_n (M := mL_law) 461 dL_law_460 rfl rfl ?_
    refine f_iload (M := mL_law) 463 dL_law_461 rfl rfl ?_
    refine f_iconst (M := mL_law) 464 dL_law_463 ki_3 rfl ?_
    refine f_iadd (M := mL_law) 465 dL_law_464 rfl ?_
    refine e_iaf (M := mL_law) (w := Lw) (f := xs) (j := (7 * N) + (3)) dL_law_465 (x_kk rfl) rfl (ix_add rfl kn_3) (by omega) (by omega) ?_
    refine f_aload_n (M := mL_law) 467 dL_law_466 rfl rfl ?_
    refine f_iload (M := mL_law) 469 dL_law_467 rfl rfl ?_
    refine f_iconst (M := mL_law) 470 dL_law_469 ki_4 rfl ?_
    refine f_iadd (M := mL_law) 471 dL_law_470 rfl ?_
    refine e_iaf (M := mL_law) (w := Lw) (f := xs) (j := (7 * N) + (4)) dL_law_471 (x_kk rfl) rfl (ix_add rfl kn_4) (by omega) (by omega) ?_
    refine f_aload_n (M := mL_law) 473 dL_law_472 rfl rfl ?_
    refine f_iload (M := mL_law) 475 dL_law_473 rfl rfl ?_
    refine f_iconst (M := mL_law) 476 dL_law_475 ki_5 rfl ?_
    refine f_iadd (M := mL_law) 477 dL_law_476 rfl ?_
    refine e_iaf (M := mL_law) (w := Lw) (f := xs) (j := (7 * N) + (5)) dL_law_477 (x_kk rfl) rfl (ix_add rfl kn_5) (by omega) (by omega) ?_
    refine f_aload_n (M := mL_law) 479 dL_law_478 rfl rfl ?_
    refine f_iload (M := mL_law) 481 dL_law_479 rfl rfl ?_
    refine f_bipush (M := mL_law) 483 dL_law_481 kb_6 rfl ?_
    refine f_iadd (M := mL_law) 484 dL_law_483 rfl ?_
    refine e_iaf (M := mL_law) (w := Lw) (f := xs) (j := (7 * N) + (6)) dL_law_484 (x_kk rfl) rfl (ix_add rfl kn_6) (by omega) (by omega) ?_
    refine f_aload_n (M := mL_law) 486 dL_law_485 rfl rfl ?_
    refine e_cS (M := mL_law) [_] (c + 2) (k + 12) dL_law_486 pa_10182 cc_10182 rfl rfl rfl rfl rfl (show c + 2 ≤ 601024 by omega) (show k + 12 ≤ 7293034 by omega) rfl (h1) rfl ?_
    refine f_istore (M := mL_law) (ls' := [_, _, _, _, _, _, _, _]) 491 dL_law_489 rfl rfl rfl ?_
    refine f_aload_n (M := mL_law) 492 dL_law_491 rfl rfl ?_
    refine f_aload_n (M := mL_law) 493 dL_law_492 rfl rfl ?_
    refine f_iload (M := mL_law) 495 dL_law_493 rfl rfl ?_
    refine f_iconst (M := mL_law) 496 dL_law_495 ki_1 rfl ?_
    refine f_iadd (M := mL_law) 497 dL_law_496 rfl ?_
    refine e_iaf (M := mL_law) (w := Lw) (f := xs) (j := (7 * N) + (1)) dL_law_497 (x_kk rfl) rfl (ix_add rfl kn_1) (by omega) (by omega) ?_
    refine f_aload_n (M := mL_law) 499 dL_law_498 rfl rfl ?_
    refine f_iload (M := mL_law) 501 dL_law_499 rfl rfl ?_
    refine f_iconst (M := mL_law) 502 dL_law_501 ki_2 rfl ?_
    refine f_iadd (M := mL_law) 503 dL_law_502 rfl ?_
    refine e_iaf (M := mL_law) (w := Lw) (f := xs) (j := (7 * N) + (2)) dL_law_503 (x_kk rfl) rfl (ix_add rfl kn_2) (by omega) (by omega) ?_
    refine f_aload_n (M := mL_law) 505 dL_law_504 rfl rfl ?_
    refine f_iload (M := mL_law) 507 dL_law_505 rfl rfl ?_
    refine f_iconst (M := mL_law) 508 dL_law_507 ki_3 rfl ?_
    refine f_iadd (M := mL_law) 509 dL_law_508 rfl ?_
    refine e_iaf (M := mL_law) (w := Lw) (f := xs) (j := (7 * N) + (3)) dL_law_509 (x_kk rfl) rfl (ix_add rfl kn_3) (by omega) (by omega) ?_
    refine f_aload_n (M := mL_law) 511 dL_law_510 rfl rfl ?_
    refine f_iload (M := mL_law) 513 dL_law_511 rfl rfl ?_
    refine f_iconst (M := mL_law) 514 dL_law_513 ki_4 rfl ?_
    refine f_iadd (M := mL_law) 515 dL_law_514 rfl ?_
    refine e_iaf (M := mL_law) (w := Lw) (f := xs) (j := (7 * N) + (4)) dL_law_515 (x_kk rfl) rfl (ix_add rfl kn_4) (by omega) (by omega) ?_
    refine f_aload_n (M := mL_law) 517 dL_law_516 rfl rfl ?_
    refine f_iload (M := mL_law) 519 dL_law_517 rfl rfl ?_
    refine f_iconst (M := mL_law) 520 dL_law_519 ki_5 rfl ?_
    refine f_iadd (M := mL_law) 521 dL_law_520 rfl ?_
    refine e_iaf (M := mL_law) (w := Lw) (f := xs) (j := (7 * N) + (5)) dL_law_521 (x_kk rfl) rfl (ix_add rfl kn_5) (by omega) (by omega) ?_
    refine f_aload_n (M := mL_law) 523 dL_law_522 rfl rfl ?_
    refine f_iload (M := mL_law) 525 dL_law_523 rfl rfl ?_
    refine f_bipush (M := mL_law) 527 dL_law_525 kb_6 rfl ?_
    refine f_iadd (M := mL_law) 528 dL_law_527 rfl ?_
    refine e_iaf (M := mL_law) (w := Lw) (f := xs) (j := (7 * N) + (6)) dL_law_528 (x_kk rfl) rfl (ix_add rfl kn_6) (by omega) (by omega) ?_
    refine e_cV (M := mL_law) [_] (c + 2) (k + 12) dL_law_529 pa_10185 pb_10185 cc_10185 rfl rfl rfl rfl rfl (show c + 2 ≤ 601024 by omega) (show k + 12 ≤ 7293034 by omega) rfl (h2) rfl ?_
    refine f_istore (M := mL_law) (ls' := [_, _, _, _, _, _, _, _]) 534 dL_law_532 rfl rfl rfl ?_
    refine f_aload_n (M := mL_law) 535 dL_law_534 rfl rfl ?_
    refine e_cV (M := mL_law) [_] (c + 2) (k + 12) dL_law_535 pa_10163 pb_10163 cc_10163 rfl rfl rfl rfl rfl (show c + 2 ≤ 601024 by omega) (show k + 12 ≤ 7293034 by omega) rfl (c_X9_thrown) rfl ?_
    refine f_iload (M := mL_law) 540 dL_law_538 rfl rfl ?_
    refine e_icmp_eqT (M := mL_law) 545 dL_law_540 rfl ht ?_
    refine f_iload (M := mL_law) 547 dL_law_545 rfl rfl ?_
    refine e_if_neF (M := mL_law) 562 dL_law_547 rfl (fun q => q z) ?_
    refine f_aload_n (M := mL_law) 551 dL_law_550 rfl rfl ?_
    refine f_iconst (M := mL_law) 552 dL_law_551 ki_0 rfl ?_
    refine e_lld (M := mL_law) (w := 1) (j := 0) dL_law_552 (x_kk rfl) rfl kn_0 (by omega) (by omega) ?_
    refine f_iload (M := mL_law) 555 dL_law_553 rfl rfl ?_
    refine f_i2l (M := mL_law) 556 dL_law_555 rfl ?_
    refine f_lcmp (M := mL_law) 557 dL_law_556 rfl ?_
    refine e_if_eqT (M := mL_law) 562 dL_law_557 rfl (lc_eq.mpr (hv z)) ?_
    refine f_goto (M := mL_law) 2888 dL_law_562 rfl ?_
    refine f_iinc (M := mL_law) (ls' := [_, _, _, _, _, _, _, _]) 2891 dL_law_2888 ki_7 rfl rfl rfl rfl ?_
    refine f_goto (M := mL_law) 23 dL_law_2891 rfl ?_
    rw [show Int32.ofNat (7 * N) + 7 = Int32.ofNat (7 * (N + 1)) from ix_add rfl kn_7]; exact hr
  · refine ⟨I2, L2, R1, some (.int k0), some (.int v), w7, c + 2, k + 12, T2, by omega, by omega, fun r hr => ?_⟩
    refine e_tsI (j := 5) 447 dL_law_40 rfl (by rw [hx]; decide) (by decide) rfl rfl ?_
    refine f_aload_n (M := mL_law) 448 dL_law_447 rfl rfl ?_
    refine f_aload_n (M := mL_law) 449 dL_law_448 rfl rfl ?_
    refine f_iload (M := mL_law) 451 dL_law_449 rfl rfl ?_
    refine f_iconst (M := mL_law) 452 dL_law_451 ki_1 rfl ?_
    refine f_iadd (M := mL_law) 453 dL_law_452 rfl ?_
    refine e_iaf (M := mL_law) (w := Lw) (f := xs) (j := (7 * N) + (1)) dL_law_453 (x_kk rfl) rfl (ix_add rfl kn_1) (by omega) (by omega) ?_
    refine f_aload_n (M := mL_law) 455 dL_law_454 rfl rfl ?_
    refine f_iload (M := mL_law) 457 dL_law_455 rfl rfl ?_
    refine f_iconst (M := mL_law) 458 dL_law_457 ki_2 rfl ?_
    refine f_iadd (M := mL_law) 459 dL_law_458 rfl ?_
    refine e_iaf (M := mL_law) (w := Lw) (f := xs) (j := (7 * N) + (2)) dL_law_459 (x_kk rfl) rfl (ix_add rfl kn_2) (by omega) (by omega) ?_
    refine f_aload_n (M := mL_law) 461 dL_law_460 rfl rfl ?_
    refine f_iload (M := mL_law) 463 dL_law_461 rfl rfl ?_
    refine f_iconst (M := mL_law) 464 dL_law_463 ki_3 rfl ?_
    refine f_iadd (M := mL_law) 465 dL_law_464 rfl ?_
    refine e_iaf (M := mL_law) (w := Lw) (f := xs) (j := (7 * N) + (3)) dL_law_465 (x_kk rfl) rfl (ix_add rfl kn_3) (by omega) (by omega) ?_
    refine f_aload_n (M := mL_law) 467 dL_law_466 rfl rfl ?_
    refine f_iload (M := mL_law) 469 dL_law_467 rfl rfl ?_
    refine f_iconst (M := mL_law) 470 dL_law_469 ki_4 rfl ?_
    refine f_iadd (M := mL_law) 471 dL_law_470 rfl ?_
    refine e_iaf (M := mL_law) (w := Lw) (f := xs) (j := (7 * N) + (4)) dL_law_471 (x_kk rfl) rfl (ix_add rfl kn_4) (by omega) (by omega) ?_
    refine f_aload_n (M := mL_law) 473 dL_law_472 rfl rfl ?_
    refine f_iload (M := mL_law) 475 dL_law_473 rfl rfl ?_
    refine f_iconst (M := mL_law) 476 dL_law_475 ki_5 rfl ?_
    refine f_iadd (M := mL_law) 477 dL_law_476 rfl ?_
    refine e_iaf (M := mL_law) (w := Lw) (f := xs) (j := (7 * N) + (5)) dL_law_477 (x_kk rfl) rfl (ix_add rfl kn_5) (by omega) (by omega) ?_
    refine f_aload_n (M := mL_law) 479 dL_law_478 rfl rfl ?_
    refine f_iload (M := mL_law) 481 dL_law_479 rfl rfl ?_
    refine f_bipush (M := mL_law) 483 dL_law_481 kb_6 rfl ?_
    refine f_iadd (M := mL_law) 484 dL_law_483 rfl ?_
    refine e_iaf (M := mL_law) (w := Lw) (f := xs) (j := (7 * N) + (6)) dL_law_484 (x_kk rfl) rfl (ix_add rfl kn_6) (by omega) (by omega) ?_
    refine f_aload_n (M := mL_law) 486 dL_law_485 rfl rfl ?_
    refine e_cS (M := mL_law) [_] (c + 2) (k + 12) dL_law_486 pa_10182 cc_10182 rfl rfl rfl rfl rfl (show c + 2 ≤ 601024 by omega) (show k + 12 ≤ 7293034 by omega) rfl (h1) rfl ?_
    refine f_istore (M := mL_law) (ls' := [_, _, _, _, _, _, _, _]) 491 dL_law_489 rfl rfl rfl ?_
    refine f_aload_n (M := mL_law) 492 dL_law_491 rfl rfl ?_
    refine f_aload_n (M := mL_law) 493 dL_law_492 rfl rfl ?_
    refine f_iload (M := mL_law) 495 dL_law_493 rfl rfl ?_
    refine f_iconst (M := mL_law) 496 dL_law_495 ki_1 rfl ?_
    refine f_iadd (M := mL_law) 497 dL_law_496 rfl ?_
    refine e_iaf (M := mL_law) (w := Lw) (f := xs) (j := (7 * N) + (1)) dL_law_497 (x_kk rfl) rfl (ix_add rfl kn_1) (by omega) (by omega) ?_
    refine f_aload_n (M := mL_law) 499 dL_law_498 rfl rfl ?_
    refine f_iload (M := mL_law) 501 dL_law_499 rfl rfl ?_
    refine f_iconst (M := mL_law) 502 dL_law_501 ki_2 rfl ?_
    refine f_iadd (M := mL_law) 503 dL_law_502 rfl ?_
    refine e_iaf (M := mL_law) (w := Lw) (f := xs) (j := (7 * N) + (2)) dL_law_503 (x_kk rfl) rfl (ix_add rfl kn_2) (by omega) (by omega) ?_
    refine f_aload_n (M := mL_law) 505 dL_law_504 rfl rfl ?_
    refine f_iload (M := mL_law) 507 dL_law_505 rfl rfl ?_
    refine f_iconst (M := mL_law) 508 dL_law_507 ki_3 rfl ?_
    refine f_iadd (M := mL_law) 509 dL_law_508 rfl ?_
    refine e_iaf (M := mL_law) (w := Lw) (f := xs) (j := (7 * N) + (3)) dL_law_509 (x_kk rfl) rfl (ix_add rfl kn_3) (by omega) (by omega) ?_
    refine f_aload_n (M := mL_law) 511 dL_law_510 rfl rfl ?_
    refine f_iload (M := mL_law) 513 dL_law_511 rfl rfl ?_
    refine f_iconst (M := mL_law) 514 dL_law_513 ki_4 rfl ?_
    refine f_iadd (M := mL_law) 515 dL_law_514 rfl ?_
    refine e_iaf (M := mL_law) (w := Lw) (f := xs) (j := (7 * N) + (4)) dL_law_515 (x_kk rfl) rfl (ix_add rfl kn_4) (by omega) (by omega) ?_
    refine f_aload_n (M := mL_law) 517 dL_law_516 rfl rfl ?_
    refine f_iload (M := mL_law) 519 dL_law_517 rfl rfl ?_
    refine f_iconst (M := mL_law) 520 dL_law_519 ki_5 rfl ?_
    refine f_iadd (M := mL_law) 521 dL_law_520 rfl ?_
    refine e_iaf (M := mL_law) (w := Lw) (f := xs) (j := (7 * N) + (5)) dL_law_521 (x_kk rfl) rfl (ix_add rfl kn_5) (by omega) (by omega) ?_
    refine f_aload_n (M := mL_law) 523 dL_law_522 rfl rfl ?_
    refine f_iload (M := mL_law) 525 dL_law_523 rfl rfl ?_
    refine f_bipush (M := mL_law) 527 dL_law_525 kb_6 rfl ?_
    refine f_iadd (M := mL_law) 528 dL_law_527 rfl ?_
    refine e_iaf (M := mL_law) (w := Lw) (f := xs) (j := (7 * N) + (6)) dL_law_528 (x_kk rfl) rfl (ix_add rfl kn_6) (by omega) (by omega) ?_
    refine e_cV (M := mL_law) [_] (c + 2) (k + 12) dL_law_529 pa_10185 pb_10185 cc_10185 rfl rfl rfl rfl rfl (show c + 2 ≤ 601024 by omega) (show k + 12 ≤ 7293034 by omega) rfl (h2) rfl ?_
    refine f_istore (M := mL_law) (ls' := [_, _, _, _, _, _, _, _]) 534 dL_law_532 rfl rfl rfl ?_
    refine f_aload_n (M := mL_law) 535 dL_law_534 rfl rfl ?_
    refine e_cV (M := mL_law) [_] (c + 2) (k + 12) dL_law_535 pa_10163 pb_10163 cc_10163 rfl rfl rfl rfl rfl (show c + 2 ≤ 601024 by omega) (show k + 12 ≤ 7293034 by omega) rfl (c_X9_thrown) rfl ?_
    refine f_iload (M := mL_law) 540 dL_law_538 rfl rfl ?_
    refine e_icmp_eqT (M := mL_law) 545 dL_law_540 rfl ht ?_
    refine f_iload (M := mL_law) 547 dL_law_545 rfl rfl ?_
    refine e_if_neT (M := mL_law) 562 dL_law_547 rfl z ?_
    refine f_goto (M := mL_law) 2888 dL_law_562 rfl ?_
    refine f_iinc (M := mL_law) (ls' := [_, _, _, _, _, _, _, _]) 2891 dL_law_2888 ki_7 rfl rfl rfl rfl ?_
    refine f_goto (M := mL_law) 23 dL_law_2891 rfl ?_
    rw [show Int32.ofNat (7 * N) + 7 = Int32.ofNat (7 * (N + 1)) from ix_add rfl kn_7]; exact hr
theorem law_6 (hlen : 7 * N + 7 ≤ Lw) (hLw : Lw ≤ 3584) (T : y_T N I L R) (hN : N < 512) (hc : c ≤ 233 + 4 * N) (hk : k ≤ 14655 + 24 * N) (hx : xs (7 * N) &&& 63 = Int32.ofNat 6) : y_Nx Lw xs N I L R c k w5 w6 w7 := by
  have sm : y_OI N (Lw, xs) mL_removePlot [.ref 0, .int (xs (7 * N + 1)), .ref 232] mX9_removePlot [.ref 225, .int (xs (7 * N + 1))] I L R := sim_removePlot (X := (Lw, xs)) T
  obtain ⟨k0, I1, L1, R1, v, I2, L2, h1, h2, ht, hv, T2⟩ := sm
  by_cases z : k0 = 0
  · refine ⟨I2, L2, R1, some (.int k0), some (.int v), w7, c + 2, k + 12, T2, by omega, by omega, fun r hr => ?_⟩
    refine e_tsI (j := 6) 565 dL_law_40 rfl (by rw [hx]; decide) (by decide) rfl rfl ?_
    refine f_aload_n (M := mL_law) 566 dL_law_565 rfl rfl ?_
    refine f_aload_n (M := mL_law) 567 dL_law_566 rfl rfl ?_
    refine f_iload (M := mL_law) 569 dL_law_567 rfl rfl ?_
    refine f_iconst (M := mL_law) 570 dL_law_569 ki_1 rfl ?_
    refine f_iadd (M := mL_law) 571 dL_law_570 rfl ?_
    refine e_iaf (M := mL_law) (w := Lw) (f := xs) (j := (7 * N) + (1)) dL_law_571 (x_kk rfl) rfl (ix_add rfl kn_1) (by omega) (by omega) ?_
    refine f_aload_n (M := mL_law) 573 dL_law_572 rfl rfl ?_
    refine e_cS (M := mL_law) [_] (c + 2) (k + 12) dL_law_573 pa_10186 cc_10186 rfl rfl rfl rfl rfl (show c + 2 ≤ 601024 by omega) (show k + 12 ≤ 7293034 by omega) rfl (h1) rfl ?_
    refine f_istore (M := mL_law) (ls' := [_, _, _, _, _, _, _, _]) 578 dL_law_576 rfl rfl rfl ?_
    refine f_aload_n (M := mL_law) 579 dL_law_578 rfl rfl ?_
    refine f_aload_n (M := mL_law) 580 dL_law_579 rfl rfl ?_
    refine f_iload (M := mL_law) 582 dL_law_580 rfl rfl ?_
    refine f_iconst (M := mL_law) 583 dL_law_582 ki_1 rfl ?_
    refine f_iadd (M := mL_law) 584 dL_law_583 rfl ?_
    refine e_iaf (M := mL_law) (w := Lw) (f := xs) (j := (7 * N) + (1)) dL_law_584 (x_kk rfl) rfl (ix_add rfl kn_1) (by omega) (by omega) ?_
    refine e_cV (M := mL_law) [_] (c + 2) (k + 12) dL_law_585 pa_10188 pb_10188 cc_10188 rfl rfl rfl rfl rfl (show c + 2 ≤ 601024 by omega) (show k + 12 ≤ 7293034 by omega) rfl (h2) rfl ?_
    refine f_istore (M := mL_law) (ls' := [_, _, _, _, _, _, _, _]) 590 dL_law_588 rfl rfl rfl ?_
    refine f_aload_n (M := mL_law) 591 dL_law_590 rfl rfl ?_
    refine e_cV (M := mL_law) [_] (c + 2) (k + 12) dL_law_591 pa_10163 pb_10163 cc_10163 rfl rfl rfl rfl rfl (show c + 2 ≤ 601024 by omega) (show k + 12 ≤ 7293034 by omega) rfl (c_X9_thrown) rfl ?_
    refine f_iload (M := mL_law) 596 dL_law_594 rfl rfl ?_
    refine e_icmp_eqT (M := mL_law) 601 dL_law_596 rfl ht ?_
    refine f_iload (M := mL_law) 603 dL_law_601 rfl rfl ?_
    refine e_if_neF (M := mL_law) 618 dL_law_603 rfl (fun q => q z) ?_
    refine f_aload_n (M := mL_law) 607 dL_law_606 rfl rfl ?_
    refine f_iconst (M := mL_law) 608 dL_law_607 ki_0 rfl ?_
    refine e_lld (M := mL_law) (w := 1) (j := 0) dL_law_608 (x_kk rfl) rfl kn_0 (by omega) (by omega) ?_
    refine f_iload (M := mL_law) 611 dL_law_609 rfl rfl ?_
    refine f_i2l (M := mL_law) 612 dL_law_611 rfl ?_
    refine f_lcmp (M := mL_law) 613 dL_law_612 rfl ?_
    refine e_if_eqT (M := mL_law) 618 dL_law_613 rfl (lc_eq.mpr (hv z)) ?_
    refine f_goto (M := mL_law) 2888 dL_law_618 rfl ?_
    refine f_iinc (M := mL_law) (ls' := [_, _, _, _, _, _, _, _]) 2891 dL_law_2888 ki_7 rfl rfl rfl rfl ?_
    refine f_goto (M := mL_law) 23 dL_law_2891 rfl ?_
    rw [show Int32.ofNat (7 * N) + 7 = Int32.ofNat (7 * (N + 1)) from ix_add rfl kn_7]; exact hr
  · refine ⟨I2, L2, R1, some (.int k0), some (.int v), w7, c + 2, k + 12, T2, by omega, by omega, fun r hr => ?_⟩
    refine e_tsI (j := 6) 565 dL_law_40 rfl (by rw [hx]; decide) (by decide) rfl rfl ?_
    refine f_aload_n (M := mL_law) 566 dL_law_565 rfl rfl ?_
    refine f_aload_n (M := mL_law) 567 dL_law_566 rfl rfl ?_
    refine f_iload (M := mL_law) 569 dL_law_567 rfl rfl ?_
    refine f_iconst (M := mL_law) 570 dL_law_569 ki_1 rfl ?_
    refine f_iadd (M := mL_law) 571 dL_law_570 rfl ?_
    refine e_iaf (M := mL_law) (w := Lw) (f := xs) (j := (7 * N) + (1)) dL_law_571 (x_kk rfl) rfl (ix_add rfl kn_1) (by omega) (by omega) ?_
    refine f_aload_n (M := mL_law) 573 dL_law_572 rfl rfl ?_
    refine e_cS (M := mL_law) [_] (c + 2) (k + 12) dL_law_573 pa_10186 cc_10186 rfl rfl rfl rfl rfl (show c + 2 ≤ 601024 by omega) (show k + 12 ≤ 7293034 by omega) rfl (h1) rfl ?_
    refine f_istore (M := mL_law) (ls' := [_, _, _, _, _, _, _, _]) 578 dL_law_576 rfl rfl rfl ?_
    refine f_aload_n (M := mL_law) 579 dL_law_578 rfl rfl ?_
    refine f_aload_n (M := mL_law) 580 dL_law_579 rfl rfl ?_
    refine f_iload (M := mL_law) 582 dL_law_580 rfl rfl ?_
    refine f_iconst (M := mL_law) 583 dL_law_582 ki_1 rfl ?_
    refine f_iadd (M := mL_law) 584 dL_law_583 rfl ?_
    refine e_iaf (M := mL_law) (w := Lw) (f := xs) (j := (7 * N) + (1)) dL_law_584 (x_kk rfl) rfl (ix_add rfl kn_1) (by omega) (by omega) ?_
    refine e_cV (M := mL_law) [_] (c + 2) (k + 12) dL_law_585 pa_10188 pb_10188 cc_10188 rfl rfl rfl rfl rfl (show c + 2 ≤ 601024 by omega) (show k + 12 ≤ 7293034 by omega) rfl (h2) rfl ?_
    refine f_istore (M := mL_law) (ls' := [_, _, _, _, _, _, _, _]) 590 dL_law_588 rfl rfl rfl ?_
    refine f_aload_n (M := mL_law) 591 dL_law_590 rfl rfl ?_
    refine e_cV (M := mL_law) [_] (c + 2) (k + 12) dL_law_591 pa_10163 pb_10163 cc_10163 rfl rfl rfl rfl rfl (show c + 2 ≤ 601024 by omega) (show k + 12 ≤ 7293034 by omega) rfl (c_X9_thrown) rfl ?_
    refine f_iload (M := mL_law) 596 dL_law_594 rfl rfl ?_
    refine e_icmp_eqT (M := mL_law) 601 dL_law_596 rfl ht ?_
    refine f_iload (M := mL_law) 603 dL_law_601 rfl rfl ?_
    refine e_if_neT (M := mL_law) 618 dL_law_603 rfl z ?_
    refine f_goto (M := mL_law) 2888 dL_law_618 rfl ?_
    refine f_iinc (M := mL_law) (ls' := [_, _, _, _, _, _, _, _]) 2891 dL_law_2888 ki_7 rfl rfl rfl rfl ?_
    refine f_goto (M := mL_law) 23 dL_law_2891 rfl ?_
    rw [show Int32.ofNat (7 * N) + 7 = Int32.ofNat (7 * (N + 1)) from ix_add rfl kn_7]; exact hr
theorem law_7 (hlen : 7 * N + 7 ≤ Lw) (hLw : Lw ≤ 3584) (T : y_T N I L R) (hN : N < 512) (hc : c ≤ 233 + 4 * N) (hk : k ≤ 14655 + 24 * N) (hx : xs (7 * N) &&& 63 = Int32.ofNat 7) : y_Nx Lw xs N I L R c k w5 w6 w7 := by
  by_cases hb : xs (7 * N + 2) = 0
  · skip
    have sm : y_OL N (Lw, xs) mL_estimate [.ref 0, .int (xs (7 * N + 1)), .int 0, .ref 232] mX9_estimate [.ref 225, .int (xs (7 * N + 1)), .int 0] I L R := sim_estimate (X := (Lw, xs)) T
    obtain ⟨k0, I1, L1, R1, v, I2, L2, h1, h2, ht, hv, T2⟩ := sm
    by_cases z : k0 = 0
    · refine ⟨I2, L2, R1, some (.int k0), some (.long v), none, c + 2, k + 12, T2, by omega, by omega, fun r hr => ?_⟩
      refine e_tsI (j := 7) 621 dL_law_40 rfl (by rw [hx]; decide) (by decide) rfl rfl ?_
      refine f_aload_n (M := mL_law) 622 dL_law_621 rfl rfl ?_
      refine f_aload_n (M := mL_law) 623 dL_law_622 rfl rfl ?_
      refine f_iload (M := mL_law) 625 dL_law_623 rfl rfl ?_
      refine f_iconst (M := mL_law) 626 dL_law_625 ki_1 rfl ?_
      refine f_iadd (M := mL_law) 627 dL_law_626 rfl ?_
      refine e_iaf (M := mL_law) (w := Lw) (f := xs) (j := (7 * N) + (1)) dL_law_627 (x_kk rfl) rfl (ix_add rfl kn_1) (by omega) (by omega) ?_
      refine f_aload_n (M := mL_law) 629 dL_law_628 rfl rfl ?_
      refine f_iload (M := mL_law) 631 dL_law_629 rfl rfl ?_
      refine f_iconst (M := mL_law) 632 dL_law_631 ki_2 rfl ?_
      refine f_iadd (M := mL_law) 633 dL_law_632 rfl ?_
      refine e_iaf (M := mL_law) (w := Lw) (f := xs) (j := (7 * N) + (2)) dL_law_633 (x_kk rfl) rfl (ix_add rfl kn_2) (by omega) (by omega) ?_
      refine e_if_eqT (M := mL_law) 641 dL_law_634 rfl hb ?_
      refine f_iconst (M := mL_law) 642 dL_law_641 ki_0 rfl ?_
      refine f_aload_n (M := mL_law) 643 dL_law_642 rfl rfl ?_
      refine e_cS (M := mL_law) [_] (c + 2) (k + 12) dL_law_643 pa_10189 cc_10189 rfl rfl rfl rfl rfl (show c + 2 ≤ 601024 by omega) (show k + 12 ≤ 7293034 by omega) rfl (h1) rfl ?_
      refine f_istore (M := mL_law) (ls' := [_, _, _, _, _, _, _, _]) 648 dL_law_646 rfl rfl rfl ?_
      refine f_aload_n (M := mL_law) 649 dL_law_648 rfl rfl ?_
      refine f_aload_n (M := mL_law) 650 dL_law_649 rfl rfl ?_
      refine f_iload (M := mL_law) 652 dL_law_650 rfl rfl ?_
      refine f_iconst (M := mL_law) 653 dL_law_652 ki_1 rfl ?_
      refine f_iadd (M := mL_law) 654 dL_law_653 rfl ?_
      refine e_iaf (M := mL_law) (w := Lw) (f := xs) (j := (7 * N) + (1)) dL_law_654 (x_kk rfl) rfl (ix_add rfl kn_1) (by omega) (by omega) ?_
      refine f_aload_n (M := mL_law) 656 dL_law_655 rfl rfl ?_
      refine f_iload (M := mL_law) 658 dL_law_656 rfl rfl ?_
      refine f_iconst (M := mL_law) 659 dL_law_658 ki_2 rfl ?_
      refine f_iadd (M := mL_law) 660 dL_law_659 rfl ?_
      refine e_iaf (M := mL_law) (w := Lw) (f := xs) (j := (7 * N) + (2)) dL_law_660 (x_kk rfl) rfl (ix_add rfl kn_2) (by omega) (by omega) ?_
      refine e_if_eqT (M := mL_law) 668 dL_law_661 rfl hb ?_
      refine f_iconst (M := mL_law) 669 dL_law_668 ki_0 rfl ?_
      refine e_cV (M := mL_law) [_] (c + 2) (k + 12) dL_law_669 pa_10192 pb_10192 cc_10192 rfl rfl rfl rfl rfl (show c + 2 ≤ 601024 by omega) (show k + 12 ≤ 7293034 by omega) rfl (h2) rfl ?_
      refine f_lstore (M := mL_law) (ls' := [_, _, _, _, _, _, _, _]) 674 dL_law_672 rfl rfl rfl ?_
      refine f_aload_n (M := mL_law) 675 dL_law_674 rfl rfl ?_
      refine e_cV (M := mL_law) [_] (c + 2) (k + 12) dL_law_675 pa_10163 pb_10163 cc_10163 rfl rfl rfl rfl rfl (show c + 2 ≤ 601024 by omega) (show k + 12 ≤ 7293034 by omega) rfl (c_X9_thrown) rfl ?_
      refine f_iload (M := mL_law) 680 dL_law_678 rfl rfl ?_
      refine e_icmp_eqT (M := mL_law) 685 dL_law_680 rfl ht ?_
      refine f_iload (M := mL_law) 687 dL_law_685 rfl rfl ?_
      refine e_if_neF (M := mL_law) 701 dL_law_687 rfl (fun q => q z) ?_
      refine f_aload_n (M := mL_law) 691 dL_law_690 rfl rfl ?_
      refine f_iconst (M := mL_law) 692 dL_law_691 ki_0 rfl ?_
      refine e_lld (M := mL_law) (w := 1) (j := 0) dL_law_692 (x_kk rfl) rfl kn_0 (by omega) (by omega) ?_
      refine f_lload (M := mL_law) 695 dL_law_693 rfl rfl ?_
      refine f_lcmp (M := mL_law) 696 dL_law_695 rfl ?_
      refine e_if_eqT (M := mL_law) 701 dL_law_696 rfl (lc_eq.mpr (hv z)) ?_
      refine f_goto (M := mL_law) 2888 dL_law_701 rfl ?_
      refine f_iinc (M := mL_law) (ls' := [_, _, _, _, _, _, _, _]) 2891 dL_law_2888 ki_7 rfl rfl rfl rfl ?_
      refine f_goto (M := mL_law) 23 dL_law_2891 rfl ?_
      rw [show Int32.ofNat (7 * N) + 7 = Int32.ofNat (7 * (N + 1)) from ix_add rfl kn_7]; exact hr
    · refine ⟨I2, L2, R1, some (.int k0), some (.long v), none, c + 2, k + 12, T2, by omega, by omega, fun r hr => ?_⟩
      refine e_tsI (j := 7) 621 dL_law_40 rfl (by rw [hx]; decide) (by decide) rfl rfl ?_
      refine f_aload_n (M := mL_law) 622 dL_law_621 rfl rfl ?_
      refine f_aload_n (M := mL_law) 623 dL_law_622 rfl rfl ?_
      refine f_iload (M := mL_law) 625 dL_law_623 rfl rfl ?_
      refine f_iconst (M := mL_law) 626 dL_law_625 ki_1 rfl ?_
      refine f_iadd (M := mL_law) 627 dL_law_626 rfl ?_
      refine e_iaf (M := mL_law) (w := Lw) (f := xs) (j := (7 * N) + (1)) dL_law_627 (x_kk rfl) rfl (ix_add rfl kn_1) (by omega) (by omega) ?_
      refine f_aload_n (M := mL_law) 629 dL_law_628 rfl rfl ?_
      refine f_iload (M := mL_law) 631 dL_law_629 rfl rfl ?_
      refine f_iconst (M := mL_law) 632 dL_law_631 ki_2 rfl ?_
      refine f_iadd (M := mL_law) 633 dL_law_632 rfl ?_
      refine e_iaf (M := mL_law) (w := Lw) (f := xs) (j := (7 * N) + (2)) dL_law_633 (x_kk rfl) rfl (ix_add rfl kn_2) (by omega) (by omega) ?_
      refine e_if_eqT (M := mL_law) 641 dL_law_634 rfl hb ?_
      refine f_iconst (M := mL_law) 642 dL_law_641 ki_0 rfl ?_
      refine f_aload_n (M := mL_law) 643 dL_law_642 rfl rfl ?_
      refine e_cS (M := mL_law) [_] (c + 2) (k + 12) dL_law_643 pa_10189 cc_10189 rfl rfl rfl rfl rfl (show c + 2 ≤ 601024 by omega) (show k + 12 ≤ 7293034 by omega) rfl (h1) rfl ?_
      refine f_istore (M := mL_law) (ls' := [_, _, _, _, _, _, _, _]) 648 dL_law_646 rfl rfl rfl ?_
      refine f_aload_n (M := mL_law) 649 dL_law_648 rfl rfl ?_
      refine f_aload_n (M := mL_law) 650 dL_law_649 rfl rfl ?_
      refine f_iload (M := mL_law) 652 dL_law_650 rfl rfl ?_
      refine f_iconst (M := mL_law) 653 dL_law_652 ki_1 rfl ?_
      refine f_iadd (M := mL_law) 654 dL_law_653 rfl ?_
      refine e_iaf (M := mL_law) (w := Lw) (f := xs) (j := (7 * N) + (1)) dL_law_654 (x_kk rfl) rfl (ix_add rfl kn_1) (by omega) (by omega) ?_
      refine f_aload_n (M := mL_law) 656 dL_law_655 rfl rfl ?_
      refine f_iload (M := mL_law) 658 dL_law_656 rfl rfl ?_
      refine f_iconst (M := mL_law) 659 dL_law_658 ki_2 rfl ?_
      refine f_iadd (M := mL_law) 660 dL_law_659 rfl ?_
      refine e_iaf (M := mL_law) (w := Lw) (f := xs) (j := (7 * N) + (2)) dL_law_660 (x_kk rfl) rfl (ix_add rfl kn_2) (by omega) (by omega) ?_
      refine e_if_eqT (M := mL_law) 668 dL_law_661 rfl hb ?_
      refine f_iconst (M := mL_law) 669 dL_law_668 ki_0 rfl ?_
      refine e_cV (M := mL_law) [_] (c + 2) (k + 12) dL_law_669 pa_10192 pb_10192 cc_10192 rfl rfl rfl rfl rfl (show c + 2 ≤ 601024 by omega) (show k + 12 ≤ 7293034 by omega) rfl (h2) rfl ?_
      refine f_lstore (M := mL_law) (ls' := [_, _, _, _, _, _, _, _]) 674 dL_law_672 rfl rfl rfl ?_
      refine f_aload_n (M := mL_law) 675 dL_law_674 rfl rfl ?_
      refine e_cV (M := mL_law) [_] (c + 2) (k + 12) dL_law_675 pa_10163 pb_10163 cc_10163 rfl rfl rfl rfl rfl (show c + 2 ≤ 601024 by omega) (show k + 12 ≤ 7293034 by omega) rfl (c_X9_thrown) rfl ?_
      refine f_iload (M := mL_law) 680 dL_law_678 rfl rfl ?_
      refine e_icmp_eqT (M := mL_law) 685 dL_law_680 rfl ht ?_
      refine f_iload (M := mL_law) 687 dL_law_685 rfl rfl ?_
      refine e_if_neT (M := mL_law) 701 dL_law_687 rfl z ?_
      refine f_goto (M := mL_law) 2888 dL_law_701 rfl ?_
      refine f_iinc (M := mL_law) (ls' := [_, _, _, _, _, _, _, _]) 2891 dL_law_2888 ki_7 rfl rfl rfl rfl ?_
      refine f_goto (M := mL_law) 23 dL_law_2891 rfl ?_
      rw [show Int32.ofNat (7 * N) + 7 = Int32.ofNat (7 * (N + 1)) from ix_add rfl kn_7]; exact hr
  · skip
    have sm : y_OL N (Lw, xs) mL_estimate [.ref 0, .int (xs (7 * N + 1)), .int 1, .ref 232] mX9_estimate [.ref 225, .int (xs (7 * N + 1)), .int 1] I L R := sim_estimate (X := (Lw, xs)) T
    obtain ⟨k0, I1, L1, R1, v, I2, L2, h1, h2, ht, hv, T2⟩ := sm
    by_cases z : k0 = 0
    · refine ⟨I2, L2, R1, some (.int k0), some (.long v), none, c + 2, k + 12, T2, by omega, by omega, fun r hr => ?_⟩
      refine e_tsI (j := 7) 621 dL_law_40 rfl (by rw [hx]; decide) (by decide) rfl rfl ?_
      refine f_aload_n (M := mL_law) 622 dL_law_621 rfl rfl ?_
      refine f_aload_n (M := mL_law) 623 dL_law_622 rfl rfl ?_
      refine f_iload (M := mL_law) 625 dL_law_623 rfl rfl ?_
      refine f_iconst (M := mL_law) 626 dL_law_625 ki_1 rfl ?_
      refine f_iadd (M := mL_law) 627 dL_law_626 rfl ?_
      refine e_iaf (M := mL_law) (w := Lw) (f := xs) (j := (7 * N) + (1)) dL_law_627 (x_kk rfl) rfl (ix_add rfl kn_1) (by omega) (by omega) ?_
      refine f_aload_n (M := mL_law) 629 dL_law_628 rfl rfl ?_
      refine f_iload (M := mL_law) 631 dL_law_629 rfl rfl ?_
      refine f_iconst (M := mL_law) 632 dL_law_631 ki_2 rfl ?_
      refine f_iadd (M := mL_law) 633 dL_law_632 rfl ?_
      refine e_iaf (M := mL_law) (w := Lw) (f := xs) (j := (7 * N) + (2)) dL_law_633 (x_kk rfl) rfl (ix_add rfl kn_2) (by omega) (by omega) ?_
      refine e_if_eqF (M := mL_law) 641 dL_law_634 rfl hb ?_
      refine f_iconst (M := mL_law) 638 dL_law_637 ki_1 rfl ?_
      refine f_goto (M := mL_law) 642 dL_law_638 rfl ?_
      refine f_aload_n (M := mL_law) 643 dL_law_642 rfl rfl ?_
      refine e_cS (M := mL_law) [_] (c + 2) (k + 12) dL_law_643 pa_10189 cc_10189 rfl rfl rfl rfl rfl (show c + 2 ≤ 601024 by omega) (show k + 12 ≤ 7293034 by omega) rfl (h1) rfl ?_
      refine f_istore (M := mL_law) (ls' := [_, _, _, _, _, _, _, _]) 648 dL_law_646 rfl rfl rfl ?_
      refine f_aload_n (M := mL_law) 649 dL_law_648 rfl rfl ?_
      refine f_aload_n (M := mL_law) 650 dL_law_649 rfl rfl ?_
      refine f_iload (M := mL_law) 652 dL_law_650 rfl rfl ?_
      refine f_iconst (M := mL_law) 653 dL_law_652 ki_1 rfl ?_
      refine f_iadd (M := mL_law) 654 dL_law_653 rfl ?_
      refine e_iaf (M := mL_law) (w := Lw) (f := xs) (j := (7 * N) + (1)) dL_law_654 (x_kk rfl) rfl (ix_add rfl kn_1) (by omega) (by omega) ?_
      refine f_aload_n (M := mL_law) 656 dL_law_655 rfl rfl ?_
      refine f_iload (M := mL_law) 658 dL_law_656 rfl rfl ?_
      refine f_iconst (M := mL_law) 659 dL_law_658 ki_2 rfl ?_
      refine f_iadd (M := mL_law) 660 dL_law_659 rfl ?_
      refine e_iaf (M := mL_law) (w := Lw) (f := xs) (j := (7 * N) + (2)) dL_law_660 (x_kk rfl) rfl (ix_add rfl kn_2) (by omega) (by omega) ?_
      refine e_if_eqF (M := mL_law) 668 dL_law_661 rfl hb ?_
      refine f_iconst (M := mL_law) 665 dL_law_664 ki_1 rfl ?_
      refine f_goto (M := mL_law) 669 dL_law_665 rfl ?_
      refine e_cV (M := mL_law) [_] (c + 2) (k + 12) dL_law_669 pa_10192 pb_10192 cc_10192 rfl rfl rfl rfl rfl (show c + 2 ≤ 601024 by omega) (show k + 12 ≤ 7293034 by omega) rfl (h2) rfl ?_
      refine f_lstore (M := mL_law) (ls' := [_, _, _, _, _, _, _, _]) 674 dL_law_672 rfl rfl rfl ?_
      refine f_aload_n (M := mL_law) 675 dL_law_674 rfl rfl ?_
      refine e_cV (M := mL_law) [_] (c + 2) (k + 12) dL_law_675 pa_10163 pb_10163 cc_10163 rfl rfl rfl rfl rfl (show c + 2 ≤ 601024 by omega) (show k + 12 ≤ 7293034 by omega) rfl (c_X9_thrown) rfl ?_
      refine f_iload (M := mL_law) 680 dL_law_678 rfl rfl ?_
      refine e_icmp_eqT (M := mL_law) 685 dL_law_680 rfl ht ?_
      refine f_iload (M := mL_law) 687 dL_law_685 rfl rfl ?_
      refine e_if_neF (M := mL_law) 701 dL_law_687 rfl (fun q => q z) ?_
      refine f_aload_n (M := mL_law) 691 dL_law_690 rfl rfl ?_
      refine f_iconst (M := mL_law) 692 dL_law_691 ki_0 rfl ?_
      refine e_lld (M := mL_law) (w := 1) (j := 0) dL_law_692 (x_kk rfl) rfl kn_0 (by omega) (by omega) ?_
      refine f_lload (M := mL_law) 695 dL_law_693 rfl rfl ?_
      refine f_lcmp (M := mL_law) 696 dL_law_695 rfl ?_
      refine e_if_eqT (M := mL_law) 701 dL_law_696 rfl (lc_eq.mpr (hv z)) ?_
      refine f_goto (M := mL_law) 2888 dL_law_701 rfl ?_
      refine f_iinc (M := mL_law) (ls' := [_, _, _, _, _, _, _, _]) 2891 dL_law_2888 ki_7 rfl rfl rfl rfl ?_
      refine f_goto (M := mL_law) 23 dL_law_2891 rfl ?_
      rw [show Int32.ofNat (7 * N) + 7 = Int32.ofNat (7 * (N + 1)) from ix_add rfl kn_7]; exact hr
    · refine ⟨I2, L2, R1, some (.int k0), some (.long v), none, c + 2, k + 12, T2, by omega, by omega, fun r hr => ?_⟩
      refine e_tsI (j := 7) 621 dL_law_40 rfl (by rw [hx]; decide) (by decide) rfl rfl ?_
      refine f_aload_n (M := mL_law) 622 dL_law_621 rfl rfl ?_
      refine f_aload_n (M := mL_law) 623 dL_law_622 rfl rfl ?_
      refine f_iload (M := mL_law) 625 dL_law_623 rfl rfl ?_
      refine f_iconst (M := mL_law) 626 dL_law_625 ki_1 rfl ?_
      refine f_iadd (M := mL_law) 627 dL_law_626 rfl ?_
      refine e_iaf (M := mL_law) (w := Lw) (f := xs) (j := (7 * N) + (1)) dL_law_627 (x_kk rfl) rfl (ix_add rfl kn_1) (by omega) (by omega) ?_
      refine f_aload_n (M := mL_law) 629 dL_law_628 rfl rfl ?_
      refine f_iload (M := mL_law) 631 dL_law_629 rfl rfl ?_
      refine f_iconst (M := mL_law) 632 dL_law_631 ki_2 rfl ?_
      refine f_iadd (M := mL_law) 633 dL_law_632 rfl ?_
      refine e_iaf (M := mL_law) (w := Lw) (f := xs) (j := (7 * N) + (2)) dL_law_633 (x_kk rfl) rfl (ix_add rfl kn_2) (by omega) (by omega) ?_
      refine e_if_eqF (M := mL_law) 641 dL_law_634 rfl hb ?_
      refine f_iconst (M := mL_law) 638 dL_law_637 ki_1 rfl ?_
      refine f_goto (M := mL_law) 642 dL_law_638 rfl ?_
      refine f_aload_n (M := mL_law) 643 dL_law_642 rfl rfl ?_
      refine e_cS (M := mL_law) [_] (c + 2) (k + 12) dL_law_643 pa_10189 cc_10189 rfl rfl rfl rfl rfl (show c + 2 ≤ 601024 by omega) (show k + 12 ≤ 7293034 by omega) rfl (h1) rfl ?_
      refine f_istore (M := mL_law) (ls' := [_, _, _, _, _, _, _, _]) 648 dL_law_646 rfl rfl rfl ?_
      refine f_aload_n (M := mL_law) 649 dL_law_648 rfl rfl ?_
      refine f_aload_n (M := mL_law) 650 dL_law_649 rfl rfl ?_
      refine f_iload (M := mL_law) 652 dL_law_650 rfl rfl ?_
      refine f_iconst (M := mL_law) 653 dL_law_652 ki_1 rfl ?_
      refine f_iadd (M := mL_law) 654 dL_law_653 rfl ?_
      refine e_iaf (M := mL_law) (w := Lw) (f := xs) (j := (7 * N) + (1)) dL_law_654 (x_kk rfl) rfl (ix_add rfl kn_1) (by omega) (by omega) ?_
      refine f_aload_n (M := mL_law) 656 dL_law_655 rfl rfl ?_
      refine f_iload (M := mL_law) 658 dL_law_656 rfl rfl ?_
      refine f_iconst (M := mL_law) 659 dL_law_658 ki_2 rfl ?_
      refine f_iadd (M := mL_law) 660 dL_law_659 rfl ?_
      refine e_iaf (M := mL_law) (w := Lw) (f := xs) (j := (7 * N) + (2)) dL_law_660 (x_kk rfl) rfl (ix_add rfl kn_2) (by omega) (by omega) ?_
      refine e_if_eqF (M := mL_law) 668 dL_law_661 rfl hb ?_
      refine f_iconst (M := mL_law) 665 dL_law_664 ki_1 rfl ?_
      refine f_goto (M := mL_law) 669 dL_law_665 rfl ?_
      refine e_cV (M := mL_law) [_] (c + 2) (k + 12) dL_law_669 pa_10192 pb_10192 cc_10192 rfl rfl rfl rfl rfl (show c + 2 ≤ 601024 by omega) (show k + 12 ≤ 7293034 by omega) rfl (h2) rfl ?_
      refine f_lstore (M := mL_law) (ls' := [_, _, _, _, _, _, _, _]) 674 dL_law_672 rfl rfl rfl ?_
      refine f_aload_n (M := mL_law) 675 dL_law_674 rfl rfl ?_
      refine e_cV (M := mL_law) [_] (c + 2) (k + 12) dL_law_675 pa_10163 pb_10163 cc_10163 rfl rfl rfl rfl rfl (show c + 2 ≤ 601024 by omega) (show k + 12 ≤ 7293034 by omega) rfl (c_X9_thrown) rfl ?_
      refine f_iload (M := mL_law) 680 dL_law_678 rfl rfl ?_
      refine e_icmp_eqT (M := mL_law) 685 dL_law_680 rfl ht ?_
      refine f_iload (M := mL_law) 687 dL_law_685 rfl rfl ?_
      refine e_if_neT (M := mL_law) 701 dL_law_687 rfl z ?_
      refine f_goto (M := mL_law) 2888 dL_law_701 rfl ?_
      refine f_iinc (M := mL_law) (ls' := [_, _, _, _, _, _, _, _]) 2891 dL_law_2888 ki_7 rfl rfl rfl rfl ?_
      refine f_goto (M := mL_law) 23 dL_law_2891 rfl ?_
      rw [show Int32.ofNat (7 * N) + 7 = Int32.ofNat (7 * (N + 1)) from ix_add rfl kn_7]; exact hr
theorem law_8 (hlen : 7 * N + 7 ≤ Lw) (hLw : Lw ≤ 3584) (T : y_T N I L R) (hN : N < 512) (hc : c ≤ 233 + 4 * N) (hk : k ≤ 14655 + 24 * N) (hx : xs (7 * N) &&& 63 = Int32.ofNat 8) : y_Nx Lw xs N I L R c k w5 w6 w7 := by
  by_cases hb : xs (7 * N + 2) = 0
  · skip
    have sm : y_OL N (Lw, xs) mL_squaredError [.ref 0, .int (xs (7 * N + 1)), .int 0, .ref 232] mX9_squaredError [.ref 225, .int (xs (7 * N + 1)), .int 0] I L R := sim_squaredError (X := (Lw, xs)) T
    obtain ⟨k0, I1, L1, R1, v, I2, L2, h1, h2, ht, hv, T2⟩ := sm
    by_cases z : k0 = 0
    · refine ⟨I2, L2, R1, some (.int k0), some (.long v), none, c + 2, k + 12, T2, by omega, by omega, fun r hr => ?_⟩
      refine e_tsI (j := 8) 704 dL_law_40 rfl (by rw [hx]; decide) (by decide) rfl rfl ?_
      refine f_aload_n (M := mL_law) 705 dL_law_704 rfl rfl ?_
      refine f_aload_n (M := mL_law) 706 dL_law_705 rfl rfl ?_
      refine f_iload (M := mL_law) 708 dL_law_706 rfl rfl ?_
      refine f_iconst (M := mL_law) 709 dL_law_708 ki_1 rfl ?_
      refine f_iadd (M := mL_law) 710 dL_law_709 rfl ?_
      refine e_iaf (M := mL_law) (w := Lw) (f := xs) (j := (7 * N) + (1)) dL_law_710 (x_kk rfl) rfl (ix_add rfl kn_1) (by omega) (by omega) ?_
      refine f_aload_n (M := mL_law) 712 dL_law_711 rfl rfl ?_
      refine f_iload (M := mL_law) 714 dL_law_712 rfl rfl ?_
      refine f_iconst (M := mL_law) 715 dL_law_714 ki_2 rfl ?_
      refine f_iadd (M := mL_law) 716 dL_law_715 rfl ?_
      refine e_iaf (M := mL_law) (w := Lw) (f := xs) (j := (7 * N) + (2)) dL_law_716 (x_kk rfl) rfl (ix_add rfl kn_2) (by omega) (by omega) ?_
      refine e_if_eqT (M := mL_law) 724 dL_law_717 rfl hb ?_
      refine f_iconst (M := mL_law) 725 dL_law_724 ki_0 rfl ?_
      refine f_aload_n (M := mL_law) 726 dL_law_725 rfl rfl ?_
      refine e_cS (M := mL_law) [_] (c + 2) (k + 12) dL_law_726 pa_10193 cc_10193 rfl rfl rfl rfl rfl (show c + 2 ≤ 601024 by omega) (show k + 12 ≤ 7293034 by omega) rfl (h1) rfl ?_
      refine f_istore (M := mL_law) (ls' := [_, _, _, _, _, _, _, _]) 731 dL_law_729 rfl rfl rfl ?_
      refine f_aload_n (M := mL_law) 732 dL_law_731 rfl rfl ?_
      refine f_aload_n (M := mL_law) 733 dL_law_732 rfl rfl ?_
      refine f_iload (M := mL_law) 735 dL_law_733 rfl rfl ?_
      refine f_iconst (M := mL_law) 736 dL_law_735 ki_1 rfl ?_
      refine f_iadd (M := mL_law) 737 dL_law_736 rfl ?_
      refine e_iaf (M := mL_law) (w := Lw) (f := xs) (j := (7 * N) + (1)) dL_law_737 (x_kk rfl) rfl (ix_add rfl kn_1) (by omega) (by omega) ?_
      refine f_aload_n (M := mL_law) 739 dL_law_738 rfl rfl ?_
      refine f_iload (M := mL_law) 741 dL_law_739 rfl rfl ?_
      refine f_iconst (M := mL_law) 742 dL_law_741 ki_2 rfl ?_
      refine f_iadd (M := mL_law) 743 dL_law_742 rfl ?_
      refine e_iaf (M := mL_law) (w := Lw) (f := xs) (j := (7 * N) + (2)) dL_law_743 (x_kk rfl) rfl (ix_add rfl kn_2) (by omega) (by omega) ?_
      refine e_if_eqT (M := mL_law) 751 dL_law_744 rfl hb ?_
      refine f_iconst (M := mL_law) 752 dL_law_751 ki_0 rfl ?_
      refine e_cV (M := mL_law) [_] (c + 2) (k + 12) dL_law_752 pa_10195 pb_10195 cc_10195 rfl rfl rfl rfl rfl (show c + 2 ≤ 601024 by omega) (show k + 12 ≤ 7293034 by omega) rfl (h2) rfl ?_
      refine f_lstore (M := mL_law) (ls' := [_, _, _, _, _, _, _, _]) 757 dL_law_755 rfl rfl rfl ?_
      refine f_aload_n (M := mL_law) 758 dL_law_757 rfl rfl ?_
      refine e_cV (M := mL_law) [_] (c + 2) (k + 12) dL_law_758 pa_10163 pb_10163 cc_10163 rfl rfl rfl rfl rfl (show c + 2 ≤ 601024 by omega) (show k + 12 ≤ 7293034 by omega) rfl (c_X9_thrown) rfl ?_
      refine f_iload (M := mL_law) 763 dL_law_761 rfl rfl ?_
      refine e_icmp_eqT (M := mL_law) 768 dL_law_763 rfl ht ?_
      refine f_iload (M := mL_law) 770 dL_law_768 rfl rfl ?_
      refine e_if_neF (M := mL_law) 784 dL_law_770 rfl (fun q => q z) ?_
      refine f_aload_n (M := mL_law) 774 dL_law_773 rfl rfl ?_
      refine f_iconst (M := mL_law) 775 dL_law_774 ki_0 rfl ?_
      refine e_lld (M := mL_law) (w := 1) (j := 0) dL_law_775 (x_kk rfl) rfl kn_0 (by omega) (by omega) ?_
      refine f_lload (M := mL_law) 778 dL_law_776 rfl rfl ?_
      refine f_lcmp (M := mL_law) 779 dL_law_778 rfl ?_
      refine e_if_eqT (M := mL_law) 784 dL_law_779 rfl (lc_eq.mpr (hv z)) ?_
      refine f_goto (M := mL_law) 2888 dL_law_784 rfl ?_
      refine f_iinc (M := mL_law) (ls' := [_, _, _, _, _, _, _, _]) 2891 dL_law_2888 ki_7 rfl rfl rfl rfl ?_
      refine f_goto (M := mL_law) 23 dL_law_2891 rfl ?_
      rw [show Int32.ofNat (7 * N) + 7 = Int32.ofNat (7 * (N + 1)) from ix_add rfl kn_7]; exact hr
    · refine ⟨I2, L2, R1, some (.int k0), some (.long v), none, c + 2, k + 12, T2, by omega, by omega, fun r hr => ?_⟩
      refine e_tsI (j := 8) 704 dL_law_40 rfl (by rw [hx]; decide) (by decide) rfl rfl ?_
      refine f_aload_n (M := mL_law) 705 dL_law_704 rfl rfl ?_
      refine f_aload_n (M := mL_law) 706 dL_law_705 rfl rfl ?_
      refine f_iload (M := mL_law) 708 dL_law_706 rfl rfl ?_
      refine f_iconst (M := mL_law) 709 dL_law_708 ki_1 rfl ?_
      refine f_iadd (M := mL_law) 710 dL_law_709 rfl ?_
      refine e_iaf (M := mL_law) (w := Lw) (f := xs) (j := (7 * N) + (1)) dL_law_710 (x_kk rfl) rfl (ix_add rfl kn_1) (by omega) (by omega) ?_
      refine f_aload_n (M := mL_law) 712 dL_law_711 rfl rfl ?_
      refine f_iload (M := mL_law) 714 dL_law_712 rfl rfl ?_
      refine f_iconst (M := mL_law) 715 dL_law_714 ki_2 rfl ?_
      refine f_iadd (M := mL_law) 716 dL_law_715 rfl ?_
      refine e_iaf (M := mL_law) (w := Lw) (f := xs) (j := (7 * N) + (2)) dL_law_716 (x_kk rfl) rfl (ix_add rfl kn_2) (by omega) (by omega) ?_
      refine e_if_eqT (M := mL_law) 724 dL_law_717 rfl hb ?_
      refine f_iconst (M := mL_law) 725 dL_law_724 ki_0 rfl ?_
      refine f_aload_n (M := mL_law) 726 dL_law_725 rfl rfl ?_
      refine e_cS (M := mL_law) [_] (c + 2) (k + 12) dL_law_726 pa_10193 cc_10193 rfl rfl rfl rfl rfl (show c + 2 ≤ 601024 by omega) (show k + 12 ≤ 7293034 by omega) rfl (h1) rfl ?_
      refine f_istore (M := mL_law) (ls' := [_, _, _, _, _, _, _, _]) 731 dL_law_729 rfl rfl rfl ?_
      refine f_aload_n (M := mL_law) 732 dL_law_731 rfl rfl ?_
      refine f_aload_n (M := mL_law) 733 dL_law_732 rfl rfl ?_
      refine f_iload (M := mL_law) 735 dL_law_733 rfl rfl ?_
      refine f_iconst (M := mL_law) 736 dL_law_735 ki_1 rfl ?_
      refine f_iadd (M := mL_law) 737 dL_law_736 rfl ?_
      refine e_iaf (M := mL_law) (w := Lw) (f := xs) (j := (7 * N) + (1)) dL_law_737 (x_kk rfl) rfl (ix_add rfl kn_1) (by omega) (by omega) ?_
      refine f_aload_n (M := mL_law) 739 dL_law_738 rfl rfl ?_
      refine f_iload (M := mL_law) 741 dL_law_739 rfl rfl ?_
      refine f_iconst (M := mL_law) 742 dL_law_741 ki_2 rfl ?_
      refine f_iadd (M := mL_law) 743 dL_law_742 rfl ?_
      refine e_iaf (M := mL_law) (w := Lw) (f := xs) (j := (7 * N) + (2)) dL_law_743 (x_kk rfl) rfl (ix_add rfl kn_2) (by omega) (by omega) ?_
      refine e_if_eqT (M := mL_law) 751 dL_law_744 rfl hb ?_
      refine f_iconst (M := mL_law) 752 dL_law_751 ki_0 rfl ?_
      refine e_cV (M := mL_law) [_] (c + 2) (k + 12) dL_law_752 pa_10195 pb_10195 cc_10195 rfl rfl rfl rfl rfl (show c + 2 ≤ 601024 by omega) (show k + 12 ≤ 7293034 by omega) rfl (h2) rfl ?_
      refine f_lstore (M := mL_law) (ls' := [_, _, _, _, _, _, _, _]) 757 dL_law_755 rfl rfl rfl ?_
      refine f_aload_n (M := mL_law) 758 dL_law_757 rfl rfl ?_
      refine e_cV (M := mL_law) [_] (c + 2) (k + 12) dL_law_758 pa_10163 pb_10163 cc_10163 rfl rfl rfl rfl rfl (show c + 2 ≤ 601024 by omega) (show k + 12 ≤ 7293034 by omega) rfl (c_X9_thrown) rfl ?_
      refine f_iload (M := mL_law) 763 dL_law_761 rfl rfl ?_
      refine e_icmp_eqT (M := mL_law) 768 dL_law_763 rfl ht ?_
      refine f_iload (M := mL_law) 770 dL_law_768 rfl rfl ?_
      refine e_if_neT (M := mL_law) 784 dL_law_770 rfl z ?_
      refine f_goto (M := mL_law) 2888 dL_law_784 rfl ?_
      refine f_iinc (M := mL_law) (ls' := [_, _, _, _, _, _, _, _]) 2891 dL_law_2888 ki_7 rfl rfl rfl rfl ?_
      refine f_goto (M := mL_law) 23 dL_law_2891 rfl ?_
      rw [show Int32.ofNat (7 * N) + 7 = Int32.ofNat (7 * (N + 1)) from ix_add rfl kn_7]; exact hr
  · skip
    have sm : y_OL N (Lw, xs) mL_squaredError [.ref 0, .int (xs (7 * N + 1)), .int 1, .ref 232] mX9_squaredError [.ref 225, .int (xs (7 * N + 1)), .int 1] I L R := sim_squaredError (X := (Lw, xs)) T
    obtain ⟨k0, I1, L1, R1, v, I2, L2, h1, h2, ht, hv, T2⟩ := sm
    by_cases z : k0 = 0
    · refine ⟨I2, L2, R1, some (.int k0), some (.long v), none, c + 2, k + 12, T2, by omega, by omega, fun r hr => ?_⟩
      refine e_tsI (j := 8) 704 dL_law_40 rfl (by rw [hx]; decide) (by decide) rfl rfl ?_
      refine f_aload_n (M := mL_law) 705 dL_law_704 rfl rfl ?_
      refine f_aload_n (M := mL_law) 706 dL_law_705 rfl rfl ?_
      refine f_iload (M := mL_law) 708 dL_law_706 rfl rfl ?_
      refine f_iconst (M := mL_law) 709 dL_law_708 ki_1 rfl ?_
      refine f_iadd (M := mL_law) 710 dL_law_709 rfl ?_
      refine e_iaf (M := mL_law) (w := Lw) (f := xs) (j := (7 * N) + (1)) dL_law_710 (x_kk rfl) rfl (ix_add rfl kn_1) (by omega) (by omega) ?_
      refine f_aload_n (M := mL_law) 712 dL_law_711 rfl rfl ?_
      refine f_iload (M := mL_law) 714 dL_law_712 rfl rfl ?_
      refine f_iconst (M := mL_law) 715 dL_law_714 ki_2 rfl ?_
      refine f_iadd (M := mL_law) 716 dL_law_715 rfl ?_
      refine e_iaf (M := mL_law) (w := Lw) (f := xs) (j := (7 * N) + (2)) dL_law_716 (x_kk rfl) rfl (ix_add rfl kn_2) (by omega) (by omega) ?_
      refine e_if_eqF (M := mL_law) 724 dL_law_717 rfl hb ?_
      refine f_iconst (M := mL_law) 721 dL_law_720 ki_1 rfl ?_
      refine f_goto (M := mL_law) 725 dL_law_721 rfl ?_
      refine f_aload_n (M := mL_law) 726 dL_law_725 rfl rfl ?_
      refine e_cS (M := mL_law) [_] (c + 2) (k + 12) dL_law_726 pa_10193 cc_10193 rfl rfl rfl rfl rfl (show c + 2 ≤ 601024 by omega) (show k + 12 ≤ 7293034 by omega) rfl (h1) rfl ?_
      refine f_istore (M := mL_law) (ls' := [_, _, _, _, _, _, _, _]) 731 dL_law_729 rfl rfl rfl ?_
      refine f_aload_n (M := mL_law) 732 dL_law_731 rfl rfl ?_
      refine f_aload_n (M := mL_law) 733 dL_law_732 rfl rfl ?_
      refine f_iload (M := mL_law) 735 dL_law_733 rfl rfl ?_
      refine f_iconst (M := mL_law) 736 dL_law_735 ki_1 rfl ?_
      refine f_iadd (M := mL_law) 737 dL_law_736 rfl ?_
      refine e_iaf (M := mL_law) (w := Lw) (f := xs) (j := (7 * N) + (1)) dL_law_737 (x_kk rfl) rfl (ix_add rfl kn_1) (by omega) (by omega) ?_
      refine f_aload_n (M := mL_law) 739 dL_law_738 rfl rfl ?_
      refine f_iload (M := mL_law) 741 dL_law_739 rfl rfl ?_
      refine f_iconst (M := mL_law) 742 dL_law_741 ki_2 rfl ?_
      refine f_iadd (M := mL_law) 743 dL_law_742 rfl ?_
      refine e_iaf (M := mL_law) (w := Lw) (f := xs) (j := (7 * N) + (2)) dL_law_743 (x_kk rfl) rfl (ix_add rfl kn_2) (by omega) (by omega) ?_
      refine e_if_eqF (M := mL_law) 751 dL_law_744 rfl hb ?_
      refine f_iconst (M := mL_law) 748 dL_law_747 ki_1 rfl ?_
      refine f_goto (M := mL_law) 752 dL_law_748 rfl ?_
      refine e_cV (M := mL_law) [_] (c + 2) (k + 12) dL_law_752 pa_10195 pb_10195 cc_10195 rfl rfl rfl rfl rfl (show c + 2 ≤ 601024 by omega) (show k + 12 ≤ 7293034 by omega) rfl (h2) rfl ?_
      refine f_lstore (M := mL_law) (ls' := [_, _, _, _, _, _, _, _]) 757 dL_law_755 rfl rfl rfl ?_
      refine f_aload_n (M := mL_law) 758 dL_law_757 rfl rfl ?_
      refine e_cV (M := mL_law) [_] (c + 2) (k + 12) dL_law_758 pa_10163 pb_10163 cc_10163 rfl rfl rfl rfl rfl (show c + 2 ≤ 601024 by omega) (show k + 12 ≤ 7293034 by omega) rfl (c_X9_thrown) rfl ?_
      refine f_iload (M := mL_law) 763 dL_law_761 rfl rfl ?_
      refine e_icmp_eqT (M := mL_law) 768 dL_law_763 rfl ht ?_
      refine f_iload (M := mL_law) 770 dL_law_768 rfl rfl ?_
      refine e_if_neF (M := mL_law) 784 dL_law_770 rfl (fun q => q z) ?_
      refine f_aload_n (M := mL_law) 774 dL_law_773 rfl rfl ?_
      refine f_iconst (M := mL_law) 775 dL_law_774 ki_0 rfl ?_
      refine e_lld (M := mL_law) (w := 1) (j := 0) dL_law_775 (x_kk rfl) rfl kn_0 (by omega) (by omega) ?_
      refine f_lload (M := mL_law) 778 dL_law_776 rfl rfl ?_
      refine f_lcmp (M := mL_law) 779 dL_law_778 rfl ?_
      refine e_if_eqT (M := mL_law) 784 dL_law_779 rfl (lc_eq.mpr (hv z)) ?_
      refine f_goto (M := mL_law) 2888 dL_law_784 rfl ?_
      refine f_iinc (M := mL_law) (ls' := [_, _, _, _, _, _, _, _]) 2891 dL_law_2888 ki_7 rfl rfl rfl rfl ?_
      refine f_goto (M := mL_law) 23 dL_law_2891 rfl ?_
      rw [show Int32.ofNat (7 * N) + 7 = Int32.ofNat (7 * (N + 1)) from ix_add rfl kn_7]; exact hr
    · refine ⟨I2, L2, R1, some (.int k0), some (.long v), none, c + 2, k + 12, T2, by omega, by omega, fun r hr => ?_⟩
      refine e_tsI (j := 8) 704 dL_law_40 rfl (by rw [hx]; decide) (by decide) rfl rfl ?_
      refine f_aload_n (M := mL_law) 705 dL_law_704 rfl rfl ?_
      refine f_aload_n (M := mL_law) 706 dL_law_705 rfl rfl ?_
      refine f_iload (M := mL_law) 708 dL_law_706 rfl rfl ?_
      refine f_iconst (M := mL_law) 709 dL_law_708 ki_1 rfl ?_
      refine f_iadd (M := mL_law) 710 dL_law_709 rfl ?_
      refine e_iaf (M := mL_law) (w := Lw) (f := xs) (j := (7 * N) + (1)) dL_law_710 (x_kk rfl) rfl (ix_add rfl kn_1) (by omega) (by omega) ?_
      refine f_aload_n (M := mL_law) 712 dL_law_711 rfl rfl ?_
      refine f_iload (M := mL_law) 714 dL_law_712 rfl rfl ?_
      refine f_iconst (M := mL_law) 715 dL_law_714 ki_2 rfl ?_
      refine f_iadd (M := mL_law) 716 dL_law_715 rfl ?_
      refine e_iaf (M := mL_law) (w := Lw) (f := xs) (j := (7 * N) + (2)) dL_law_716 (x_kk rfl) rfl (ix_add rfl kn_2) (by omega) (by omega) ?_
      refine e_if_eqF (M := mL_law) 724 dL_law_717 rfl hb ?_
      refine f_iconst (M := mL_law) 721 dL_law_720 ki_1 rfl ?_
      refine f_goto (M := mL_law) 725 dL_law_721 rfl ?_
      refine f_aload_n (M := mL_law) 726 dL_law_725 rfl rfl ?_
      refine e_cS (M := mL_law) [_] (c + 2) (k + 12) dL_law_726 pa_10193 cc_10193 rfl rfl rfl rfl rfl (show c + 2 ≤ 601024 by omega) (show k + 12 ≤ 7293034 by omega) rfl (h1) rfl ?_
      refine f_istore (M := mL_law) (ls' := [_, _, _, _, _, _, _, _]) 731 dL_law_729 rfl rfl rfl ?_
      refine f_aload_n (M := mL_law) 732 dL_law_731 rfl rfl ?_
      refine f_aload_n (M := mL_law) 733 dL_law_732 rfl rfl ?_
      refine f_iload (M := mL_law) 735 dL_law_733 rfl rfl ?_
      refine f_iconst (M := mL_law) 736 dL_law_735 ki_1 rfl ?_
      refine f_iadd (M := mL_law) 737 dL_law_736 rfl ?_
      refine e_iaf (M := mL_law) (w := Lw) (f := xs) (j := (7 * N) + (1)) dL_law_737 (x_kk rfl) rfl (ix_add rfl kn_1) (by omega) (by omega) ?_
      refine f_aload_n (M := mL_law) 739 dL_law_738 rfl rfl ?_
      refine f_iload (M := mL_law) 741 dL_law_739 rfl rfl ?_
      refine f_iconst (M := mL_law) 742 dL_law_741 ki_2 rfl ?_
      refine f_iadd (M := mL_law) 743 dL_law_742 rfl ?_
      refine e_iaf (M := mL_law) (w := Lw) (f := xs) (j := (7 * N) + (2)) dL_law_743 (x_kk rfl) rfl (ix_add rfl kn_2) (by omega) (by omega) ?_
      refine e_if_eqF (M := mL_law) 751 dL_law_744 rfl hb ?_
      refine f_iconst (M := mL_law) 748 dL_law_747 ki_1 rfl ?_
      refine f_goto (M := mL_law) 752 dL_law_748 rfl ?_
      refine e_cV (M := mL_law) [_] (c + 2) (k + 12) dL_law_752 pa_10195 pb_10195 cc_10195 rfl rfl rfl rfl rfl (show c + 2 ≤ 601024 by omega) (show k + 12 ≤ 7293034 by omega) rfl (h2) rfl ?_
      refine f_lstore (M := mL_law) (ls' := [_, _, _, _, _, _, _, _]) 757 dL_law_755 rfl rfl rfl ?_
      refine f_aload_n (M := mL_law) 758 dL_law_757 rfl rfl ?_
      refine e_cV (M := mL_law) [_] (c + 2) (k + 12) dL_law_758 pa_10163 pb_10163 cc_10163 rfl rfl rfl rfl rfl (show c + 2 ≤ 601024 by omega) (show k + 12 ≤ 7293034 by omega) rfl (c_X9_thrown) rfl ?_
      refine f_iload (M := mL_law) 763 dL_law_761 rfl rfl ?_
      refine e_icmp_eqT (M := mL_law) 768 dL_law_763 rfl ht ?_
      refine f_iload (M := mL_law) 770 dL_law_768 rfl rfl ?_
      refine e_if_neT (M := mL_law) 784 dL_law_770 rfl z ?_
      refine f_goto (M := mL_law) 2888 dL_law_784 rfl ?_
      refine f_iinc (M := mL_law) (ls' := [_, _, _, _, _, _, _, _]) 2891 dL_law_2888 ki_7 rfl rfl rfl rfl ?_
      refine f_goto (M := mL_law) 23 dL_law_2891 rfl ?_
      rw [show Int32.ofNat (7 * N) + 7 = Int32.ofNat (7 * (N + 1)) from ix_add rfl kn_7]; exact hr
theorem law_9 (hlen : 7 * N + 7 ≤ Lw) (hLw : Lw ≤ 3584) (T : y_T N I L R) (hN : N < 512) (hc : c ≤ 233 + 4 * N) (hk : k ≤ 14655 + 24 * N) (hx : xs (7 * N) &&& 63 = Int32.ofNat 9) : y_Nx Lw xs N I L R c k w5 w6 w7 := by
  have sm : y_OZ N (Lw, xs) mL_isAccurate [.ref 0, .int (xs (7 * N + 1)), .int (xs (7 * N + 2)), .ref 232] mX9_isAccurate [.ref 225, .int (xs (7 * N + 1)), .int (xs (7 * N + 2))] I L R := sim_isAccurateZ (X := (Lw, xs)) T
  obtain ⟨k0, I1, L1, R1, v, I2, L2, hz, h1, h2, ht, hv, T2⟩ := sm
  by_cases z : k0 = 0
  · rcases hz with rfl | rfl
    · refine ⟨I2, L2, R1, some (.int k0), some (.int v), w7, c + 3, k + 18, T2, by omega, by omega, fun r hr => ?_⟩
      refine e_tsI (j := 9) 787 dL_law_40 rfl (by rw [hx]; decide) (by decide) rfl rfl ?_
      refine f_aload_n (M := mL_law) 788 dL_law_787 rfl rfl ?_
      refine f_aload_n (M := mL_law) 789 dL_law_788 rfl rfl ?_
      refine f_iload (M := mL_law) 791 dL_law_789 rfl rfl ?_
      refine f_iconst (M := mL_law) 792 dL_law_791 ki_1 rfl ?_
      refine f_iadd (M := mL_law) 793 dL_law_792 rfl ?_
      refine e_iaf (M := mL_law) (w := Lw) (f := xs) (j := (7 * N) + (1)) dL_law_793 (x_kk rfl) rfl (ix_add rfl kn_1) (by omega) (by omega) ?_
      refine f_aload_n (M := mL_law) 795 dL_law_794 rfl rfl ?_
      refine f_iload (M := mL_law) 797 dL_law_795 rfl rfl ?_
      refine f_iconst (M := mL_law) 798 dL_law_797 ki_2 rfl ?_
      refine f_iadd (M := mL_law) 799 dL_law_798 rfl ?_
      refine e_iaf (M := mL_law) (w := Lw) (f := xs) (j := (7 * N) + (2)) dL_law_799 (x_kk rfl) rfl (ix_add rfl kn_2) (by omega) (by omega) ?_
      refine f_aload_n (M := mL_law) 801 dL_law_800 rfl rfl ?_
      refine e_cS (M := mL_law) [_] (c + 3) (k + 18) dL_law_801 pa_10196 cc_10196 rfl rfl rfl rfl rfl (show c + 3 ≤ 601024 by omega) (show k + 18 ≤ 7293034 by omega) rfl (h1) rfl ?_
      refine f_istore (M := mL_law) (ls' := [_, _, _, _, _, _, _, _]) 806 dL_law_804 rfl rfl rfl ?_
      refine f_aload_n (M := mL_law) 807 dL_law_806 rfl rfl ?_
      refine f_aload_n (M := mL_law) 808 dL_law_807 rfl rfl ?_
      refine f_iload (M := mL_law) 810 dL_law_808 rfl rfl ?_
      refine f_iconst (M := mL_law) 811 dL_law_810 ki_1 rfl ?_
      refine f_iadd (M := mL_law) 812 dL_law_811 rfl ?_
      refine e_iaf (M := mL_law) (w := Lw) (f := xs) (j := (7 * N) + (1)) dL_law_812 (x_kk rfl) rfl (ix_add rfl kn_1) (by omega) (by omega) ?_
      refine f_aload_n (M := mL_law) 814 dL_law_813 rfl rfl ?_
      refine f_iload (M := mL_law) 816 dL_law_814 rfl rfl ?_
      refine f_iconst (M := mL_law) 817 dL_law_816 ki_2 rfl ?_
      refine f_iadd (M := mL_law) 818 dL_law_817 rfl ?_
      refine e_iaf (M := mL_law) (w := Lw) (f := xs) (j := (7 * N) + (2)) dL_law_818 (x_kk rfl) rfl (ix_add rfl kn_2) (by omega) (by omega) ?_
      refine e_cV (M := mL_law) [_] (c + 3) (k + 18) dL_law_819 pa_10199 pb_10199 cc_10199 rfl rfl rfl rfl rfl (show c + 3 ≤ 601024 by omega) (show k + 18 ≤ 7293034 by omega) rfl (h2) rfl ?_
      refine f_istore (M := mL_law) (ls' := [_, _, _, _, _, _, _, _]) 824 dL_law_822 rfl rfl rfl ?_
      refine f_aload_n (M := mL_law) 825 dL_law_824 rfl rfl ?_
      refine e_cV (M := mL_law) [_] (c + 3) (k + 18) dL_law_825 pa_10163 pb_10163 cc_10163 rfl rfl rfl rfl rfl (show c + 3 ≤ 601024 by omega) (show k + 18 ≤ 7293034 by omega) rfl (c_X9_thrown) rfl ?_
      refine f_iload (M := mL_law) 830 dL_law_828 rfl rfl ?_
      refine e_icmp_eqT (M := mL_law) 835 dL_law_830 rfl ht ?_
      refine f_iload (M := mL_law) 837 dL_law_835 rfl rfl ?_
      refine e_if_neF (M := mL_law) 859 dL_law_837 rfl (fun q => q z) ?_
      refine f_aload_n (M := mL_law) 841 dL_law_840 rfl rfl ?_
      refine f_iconst (M := mL_law) 842 dL_law_841 ki_0 rfl ?_
      refine e_lld (M := mL_law) (w := 1) (j := 0) dL_law_842 (x_kk rfl) rfl kn_0 (by omega) (by omega) ?_
      refine f_iload (M := mL_law) 845 dL_law_843 rfl rfl ?_
      refine e_if_eqT (M := mL_law) 852 dL_law_845 rfl rfl ?_
      refine f_lconst (M := mL_law) 853 dL_law_852 kl_0 rfl ?_
      refine f_lcmp (M := mL_law) 854 dL_law_853 rfl ?_
      refine e_if_eqT (M := mL_law) 859 dL_law_854 rfl (lc_eq.mpr (hv z)) ?_
      refine f_goto (M := mL_law) 2888 dL_law_859 rfl ?_
      refine f_iinc (M := mL_law) (ls' := [_, _, _, _, _, _, _, _]) 2891 dL_law_2888 ki_7 rfl rfl rfl rfl ?_
      refine f_goto (M := mL_law) 23 dL_law_2891 rfl ?_
      rw [show Int32.ofNat (7 * N) + 7 = Int32.ofNat (7 * (N + 1)) from ix_add rfl kn_7]; exact hr
    · refine ⟨I2, L2, R1, some (.int k0), some (.int v), w7, c + 3, k + 18, T2, by omega, by omega, fun r hr => ?_⟩
      refine e_tsI (j := 9) 787 dL_law_40 rfl (by rw [hx]; decide) (by decide) rfl rfl ?_
      refine f_aload_n (M := mL_law) 788 dL_law_787 rfl rfl ?_
      refine f_aload_n (M := mL_law) 789 dL_law_788 rfl rfl ?_
      refine f_iload (M := mL_law) 791 dL_law_789 rfl rfl ?_
      refine f_iconst (M := mL_law) 792 dL_law_791 ki_1 rfl ?_
      refine f_iadd (M := mL_law) 793 dL_law_792 rfl ?_
      refine e_iaf (M := mL_law) (w := Lw) (f := xs) (j := (7 * N) + (1)) dL_law_793 (x_kk rfl) rfl (ix_add rfl kn_1) (by omega) (by omega) ?_
      refine f_aload_n (M := mL_law) 795 dL_law_794 rfl rfl ?_
      refine f_iload (M := mL_law) 797 dL_law_795 rfl rfl ?_
      refine f_iconst (M := mL_law) 798 dL_law_797 ki_2 rfl ?_
      refine f_iadd (M := mL_law) 799 dL_law_798 rfl ?_
      refine e_iaf (M := mL_law) (w := Lw) (f := xs) (j := (7 * N) + (2)) dL_law_799 (x_kk rfl) rfl (ix_add rfl kn_2) (by omega) (by omega) ?_
      refine f_aload_n (M := mL_law) 801 dL_law_800 rfl rfl ?_
      refine e_cS (M := mL_law) [_] (c + 3) (k + 18) dL_law_801 pa_10196 cc_10196 rfl rfl rfl rfl rfl (show c + 3 ≤ 601024 by omega) (show k + 18 ≤ 7293034 by omega) rfl (h1) rfl ?_
      refine f_istore (M := mL_law) (ls' := [_, _, _, _, _, _, _, _]) 806 dL_law_804 rfl rfl rfl ?_
      refine f_aload_n (M := mL_law) 807 dL_law_806 rfl rfl ?_
      refine f_aload_n (M := mL_law) 808 dL_law_807 rfl rfl ?_
      refine f_iload (M := mL_law) 810 dL_law_808 rfl rfl ?_
      refine f_iconst (M := mL_law) 811 dL_law_810 ki_1 rfl ?_
      refine f_iadd (M := mL_law) 812 dL_law_811 rfl ?_
      refine e_iaf (M := mL_law) (w := Lw) (f := xs) (j := (7 * N) + (1)) dL_law_812 (x_kk rfl) rfl (ix_add rfl kn_1) (by omega) (by omega) ?_
      refine f_aload_n (M := mL_law) 814 dL_law_813 rfl rfl ?_
      refine f_iload (M := mL_law) 816 dL_law_814 rfl rfl ?_
      refine f_iconst (M := mL_law) 817 dL_law_816 ki_2 rfl ?_
      refine f_iadd (M := mL_law) 818 dL_law_817 rfl ?_
      refine e_iaf (M := mL_law) (w := Lw) (f := xs) (j := (7 * N) + (2)) dL_law_818 (x_kk rfl) rfl (ix_add rfl kn_2) (by omega) (by omega) ?_
      refine e_cV (M := mL_law) [_] (c + 3) (k + 18) dL_law_819 pa_10199 pb_10199 cc_10199 rfl rfl rfl rfl rfl (show c + 3 ≤ 601024 by omega) (show k + 18 ≤ 7293034 by omega) rfl (h2) rfl ?_
      refine f_istore (M := mL_law) (ls' := [_, _, _, _, _, _, _, _]) 824 dL_law_822 rfl rfl rfl ?_
      refine f_aload_n (M := mL_law) 825 dL_law_824 rfl rfl ?_
      refine e_cV (M := mL_law) [_] (c + 3) (k + 18) dL_law_825 pa_10163 pb_10163 cc_10163 rfl rfl rfl rfl rfl (show c + 3 ≤ 601024 by omega) (show k + 18 ≤ 7293034 by omega) rfl (c_X9_thrown) rfl ?_
      refine f_iload (M := mL_law) 830 dL_law_828 rfl rfl ?_
      refine e_icmp_eqT (M := mL_law) 835 dL_law_830 rfl ht ?_
      refine f_iload (M := mL_law) 837 dL_law_835 rfl rfl ?_
      refine e_if_neF (M := mL_law) 859 dL_law_837 rfl (fun q => q z) ?_
      refine f_aload_n (M := mL_law) 841 dL_law_840 rfl rfl ?_
      refine f_iconst (M := mL_law) 842 dL_law_841 ki_0 rfl ?_
      refine e_lld (M := mL_law) (w := 1) (j := 0) dL_law_842 (x_kk rfl) rfl kn_0 (by omega) (by omega) ?_
      refine f_iload (M := mL_law) 845 dL_law_843 rfl rfl ?_
      refine e_if_eqF (M := mL_law) 852 dL_law_845 rfl (by decide) ?_
      refine f_lconst (M := mL_law) 849 dL_law_848 kl_1 rfl ?_
      refine f_goto (M := mL_law) 853 dL_law_849 rfl ?_
      refine f_lcmp (M := mL_law) 854 dL_law_853 rfl ?_
      refine e_if_eqT (M := mL_law) 859 dL_law_854 rfl (lc_eq.mpr (hv z)) ?_
      refine f_goto (M := mL_law) 2888 dL_law_859 rfl ?_
      refine f_iinc (M := mL_law) (ls' := [_, _, _, _, _, _, _, _]) 2891 dL_law_2888 ki_7 rfl rfl rfl rfl ?_
      refine f_goto (M := mL_law) 23 dL_law_2891 rfl ?_
      rw [show Int32.ofNat (7 * N) + 7 = Int32.ofNat (7 * (N + 1)) from ix_add rfl kn_7]; exact hr
  · refine ⟨I2, L2, R1, some (.int k0), some (.int v), w7, c + 3, k + 18, T2, by omega, by omega, fun r hr => ?_⟩
    refine e_tsI (j := 9) 787 dL_law_40 rfl (by rw [hx]; decide) (by decide) rfl rfl ?_
    refine f_aload_n (M := mL_law) 788 dL_law_787 rfl rfl ?_
    refine f_aload_n (M := mL_law) 789 dL_law_788 rfl rfl ?_
    refine f_iload (M := mL_law) 791 dL_law_789 rfl rfl ?_
    refine f_iconst (M := mL_law) 792 dL_law_791 ki_1 rfl ?_
    refine f_iadd (M := mL_law) 793 dL_law_792 rfl ?_
    refine e_iaf (M := mL_law) (w := Lw) (f := xs) (j := (7 * N) + (1)) dL_law_793 (x_kk rfl) rfl (ix_add rfl kn_1) (by omega) (by omega) ?_
    refine f_aload_n (M := mL_law) 795 dL_law_794 rfl rfl ?_
    refine f_iload (M := mL_law) 797 dL_law_795 rfl rfl ?_
    refine f_iconst (M := mL_law) 798 dL_law_797 ki_2 rfl ?_
    refine f_iadd (M := mL_law) 799 dL_law_798 rfl ?_
    refine e_iaf (M := mL_law) (w := Lw) (f := xs) (j := (7 * N) + (2)) dL_law_799 (x_kk rfl) rfl (ix_add rfl kn_2) (by omega) (by omega) ?_
    refine f_aload_n (M := mL_law) 801 dL_law_800 rfl rfl ?_
    refine e_cS (M := mL_law) [_] (c + 3) (k + 18) dL_law_801 pa_10196 cc_10196 rfl rfl rfl rfl rfl (show c + 3 ≤ 601024 by omega) (show k + 18 ≤ 7293034 by omega) rfl (h1) rfl ?_
    refine f_istore (M := mL_law) (ls' := [_, _, _, _, _, _, _, _]) 806 dL_law_804 rfl rfl rfl ?_
    refine f_aload_n (M := mL_law) 807 dL_law_806 rfl rfl ?_
    refine f_aload_n (M := mL_law) 808 dL_law_807 rfl rfl ?_
    refine f_iload (M := mL_law) 810 dL_law_808 rfl rfl ?_
    refine f_iconst (M := mL_law) 811 dL_law_810 ki_1 rfl ?_
    refine f_iadd (M := mL_law) 812 dL_law_811 rfl ?_
    refine e_iaf (M := mL_law) (w := Lw) (f := xs) (j := (7 * N) + (1)) dL_law_812 (x_kk rfl) rfl (ix_add rfl kn_1) (by omega) (by omega) ?_
    refine f_aload_n (M := mL_law) 814 dL_law_813 rfl rfl ?_
    refine f_iload (M := mL_law) 816 dL_law_814 rfl rfl ?_
    refine f_iconst (M := mL_law) 817 dL_law_816 ki_2 rfl ?_
    refine f_iadd (M := mL_law) 818 dL_law_817 rfl ?_
    refine e_iaf (M := mL_law) (w := Lw) (f := xs) (j := (7 * N) + (2)) dL_law_818 (x_kk rfl) rfl (ix_add rfl kn_2) (by omega) (by omega) ?_
    refine e_cV (M := mL_law) [_] (c + 3) (k + 18) dL_law_819 pa_10199 pb_10199 cc_10199 rfl rfl rfl rfl rfl (show c + 3 ≤ 601024 by omega) (show k + 18 ≤ 7293034 by omega) rfl (h2) rfl ?_
    refine f_istore (M := mL_law) (ls' := [_, _, _, _, _, _, _, _]) 824 dL_law_822 rfl rfl rfl ?_
    refine f_aload_n (M := mL_law) 825 dL_law_824 rfl rfl ?_
    refine e_cV (M := mL_law) [_] (c + 3) (k + 18) dL_law_825 pa_10163 pb_10163 cc_10163 rfl rfl rfl rfl rfl (show c + 3 ≤ 601024 by omega) (show k + 18 ≤ 7293034 by omega) rfl (c_X9_thrown) rfl ?_
    refine f_iload (M := mL_law) 830 dL_law_828 rfl rfl ?_
    refine e_icmp_eqT (M := mL_law) 835 dL_law_830 rfl ht ?_
    refine f_iload (M := mL_law) 837 dL_law_835 rfl rfl ?_
    refine e_if_neT (M := mL_law) 859 dL_law_837 rfl z ?_
    refine f_goto (M := mL_law) 2888 dL_law_859 rfl ?_
    refine f_iinc (M := mL_law) (ls' := [_, _, _, _, _, _, _, _]) 2891 dL_law_2888 ki_7 rfl rfl rfl rfl ?_
    refine f_goto (M := mL_law) 23 dL_law_2891 rfl ?_
    rw [show Int32.ofNat (7 * N) + 7 = Int32.ofNat (7 * (N + 1)) from ix_add rfl kn_7]; exact hr
theorem law_10 (hlen : 7 * N + 7 ≤ Lw) (hLw : Lw ≤ 3584) (T : y_T N I L R) (hN : N < 512) (hc : c ≤ 233 + 4 * N) (hk : k ≤ 14655 + 24 * N) (hx : xs (7 * N) &&& 63 = Int32.ofNat 10) : y_Nx Lw xs N I L R c k w5 w6 w7 := by
  have sm : y_OI N (Lw, xs) mL_neededPlots [.ref 0, .int (xs (7 * N + 1)), .int (xs (7 * N + 2)), .ref 232] mX9_neededPlots [.ref 225, .int (xs (7 * N + 1)), .int (xs (7 * N + 2))] I L R := sim_neededPlots (X := (Lw, xs)) T
  obtain ⟨k0, I1, L1, R1, v, I2, L2, h1, h2, ht, hv, T2⟩ := sm
  by_cases z : k0 = 0
  · refine ⟨I2, L2, R1, some (.int k0), some (.int v), w7, c + 3, k + 18, T2, by omega, by omega, fun r hr => ?_⟩
    refine e_tsI (j := 10) 862 dL_law_40 rfl (by rw [hx]; decide) (by decide) rfl rfl ?_
    refine f_aload_n (M := mL_law) 863 dL_law_862 rfl rfl ?_
    refine f_aload_n (M := mL_law) 864 dL_law_863 rfl rfl ?_
    refine f_iload (M := mL_law) 866 dL_law_864 rfl rfl ?_
    refine f_iconst (M := mL_law) 867 dL_law_866 ki_1 rfl ?_
    refine f_iadd (M := mL_law) 868 dL_law_867 rfl ?_
    refine e_iaf (M := mL_law) (w := Lw) (f := xs) (j := (7 * N) + (1)) dL_law_868 (x_kk rfl) rfl (ix_add rfl kn_1) (by omega) (by omega) ?_
    refine f_aload_n (M := mL_law) 870 dL_law_869 rfl rfl ?_
    refine f_iload (M := mL_law) 872 dL_law_870 rfl rfl ?_
    refine f_iconst (M := mL_law) 873 dL_law_872 ki_2 rfl ?_
    refine f_iadd (M := mL_law) 874 dL_law_873 rfl ?_
    refine e_iaf (M := mL_law) (w := Lw) (f := xs) (j := (7 * N) + (2)) dL_law_874 (x_kk rfl) rfl (ix_add rfl kn_2) (by omega) (by omega) ?_
    refine f_aload_n (M := mL_law) 876 dL_law_875 rfl rfl ?_
    refine e_cS (M := mL_law) [_] (c + 3) (k + 18) dL_law_876 pa_10200 cc_10200 rfl rfl rfl rfl rfl (show c + 3 ≤ 601024 by omega) (show k + 18 ≤ 7293034 by omega) rfl (h1) rfl ?_
    refine f_istore (M := mL_law) (ls' := [_, _, _, _, _, _, _, _]) 881 dL_law_879 rfl rfl rfl ?_
    refine f_aload_n (M := mL_law) 882 dL_law_881 rfl rfl ?_
    refine f_aload_n (M := mL_law) 883 dL_law_882 rfl rfl ?_
    refine f_iload (M := mL_law) 885 dL_law_883 rfl rfl ?_
    refine f_iconst (M := mL_law) 886 dL_law_885 ki_1 rfl ?_
    refine f_iadd (M := mL_law) 887 dL_law_886 rfl ?_
    refine e_iaf (M := mL_law) (w := Lw) (f := xs) (j := (7 * N) + (1)) dL_law_887 (x_kk rfl) rfl (ix_add rfl kn_1) (by omega) (by omega) ?_
    refine f_aload_n (M := mL_law) 889 dL_law_888 rfl rfl ?_
    refine f_iload (M := mL_law) 891 dL_law_889 rfl rfl ?_
    refine f_iconst (M := mL_law) 892 dL_law_891 ki_2 rfl ?_
    refine f_iadd (M := mL_law) 893 dL_law_892 rfl ?_
    refine e_iaf (M := mL_law) (w := Lw) (f := xs) (j := (7 * N) + (2)) dL_law_893 (x_kk rfl) rfl (ix_add rfl kn_2) (by omega) (by omega) ?_
    refine e_cV (M := mL_law) [_] (c + 3) (k + 18) dL_law_894 pa_10202 pb_10202 cc_10202 rfl rfl rfl rfl rfl (show c + 3 ≤ 601024 by omega) (show k + 18 ≤ 7293034 by omega) rfl (h2) rfl ?_
    refine f_istore (M := mL_law) (ls' := [_, _, _, _, _, _, _, _]) 899 dL_law_897 rfl rfl rfl ?_
    refine f_aload_n (M := mL_law) 900 dL_law_899 rfl rfl ?_
    refine e_cV (M := mL_law) [_] (c + 3) (k + 18) dL_law_900 pa_10163 pb_10163 cc_10163 rfl rfl rfl rfl rfl (show c + 3 ≤ 601024 by omega) (show k + 18 ≤ 7293034 by omega) rfl (c_X9_thrown) rfl ?_
    refine f_iload (M := mL_law) 905 dL_law_903 rfl rfl ?_
    refine e_icmp_eqT (M := mL_law) 910 dL_law_905 rfl ht ?_
    refine f_iload (M := mL_law) 912 dL_law_910 rfl rfl ?_
    refine e_if_neF (M := mL_law) 927 dL_law_912 rfl (fun q => q z) ?_
    refine f_aload_n (M := mL_law) 916 dL_law_915 rfl rfl ?_
    refine f_iconst (M := mL_law) 917 dL_law_916 ki_0 rfl ?_
    refine e_lld (M := mL_law) (w := 1) (j := 0) dL_law_917 (x_kk rfl) rfl kn_0 (by omega) (by omega) ?_
    refine f_iload (M := mL_law) 920 dL_law_918 rfl rfl ?_
    refine f_i2l (M := mL_law) 921 dL_law_920 rfl ?_
    refine f_lcmp (M := mL_law) 922 dL_law_921 rfl ?_
    refine e_if_eqT (M := mL_law) 927 dL_law_922 rfl (lc_eq.mpr (hv z)) ?_
    refine f_goto (M := mL_law) 2888 dL_law_927 rfl ?_
    refine f_iinc (M := mL_law) (ls' := [_, _, _, _, _, _, _, _]) 2891 dL_law_2888 ki_7 rfl rfl rfl rfl ?_
    refine f_goto (M := mL_law) 23 dL_law_2891 rfl ?_
    rw [show Int32.ofNat (7 * N) + 7 = Int32.ofNat (7 * (N + 1)) from ix_add rfl kn_7]; exact hr
  · refine ⟨I2, L2, R1, some (.int k0), some (.int v), w7, c + 3, k + 18, T2, by omega, by omega, fun r hr => ?_⟩
    refine e_tsI (j := 10) 862 dL_law_40 rfl (by rw [hx]; decide) (by decide) rfl rfl ?_
    refine f_aload_n (M := mL_law) 863 dL_law_862 rfl rfl ?_
    refine f_aload_n (M := mL_law) 864 dL_law_863 rfl rfl ?_
    refine f_iload (M := mL_law) 866 dL_law_864 rfl rfl ?_
    refine f_iconst (M := mL_law) 867 dL_law_866 ki_1 rfl ?_
    refine f_iadd (M := mL_law) 868 dL_law_867 rfl ?_
    refine e_iaf (M := mL_law) (w := Lw) (f := xs) (j := (7 * N) + (1)) dL_law_868 (x_kk rfl) rfl (ix_add rfl kn_1) (by omega) (by omega) ?_
    refine f_aload_n (M := mL_law) 870 dL_law_869 rfl rfl ?_
    refine f_iload (M := mL_law) 872 dL_law_870 rfl rfl ?_
    refine f_iconst (M := mL_law) 873 dL_law_872 ki_2 rfl ?_
    refine f_iadd (M := mL_law) 874 dL_law_873 rfl ?_
    refine e_iaf (M := mL_law) (w := Lw) (f := xs) (j := (7 * N) + (2)) dL_law_874 (x_kk rfl) rfl (ix_add rfl kn_2) (by omega) (by omega) ?_
    refine f_aload_n (M := mL_law) 876 dL_law_875 rfl rfl ?_
    refine e_cS (M := mL_law) [_] (c + 3) (k + 18) dL_law_876 pa_10200 cc_10200 rfl rfl rfl rfl rfl (show c + 3 ≤ 601024 by omega) (show k + 18 ≤ 7293034 by omega) rfl (h1) rfl ?_
    refine f_istore (M := mL_law) (ls' := [_, _, _, _, _, _, _, _]) 881 dL_law_879 rfl rfl rfl ?_
    refine f_aload_n (M := mL_law) 882 dL_law_881 rfl rfl ?_
    refine f_aload_n (M := mL_law) 883 dL_law_882 rfl rfl ?_
    refine f_iload (M := mL_law) 885 dL_law_883 rfl rfl ?_
    refine f_iconst (M := mL_law) 886 dL_law_885 ki_1 rfl ?_
    refine f_iadd (M := mL_law) 887 dL_law_886 rfl ?_
    refine e_iaf (M := mL_law) (w := Lw) (f := xs) (j := (7 * N) + (1)) dL_law_887 (x_kk rfl) rfl (ix_add rfl kn_1) (by omega) (by omega) ?_
    refine f_aload_n (M := mL_law) 889 dL_law_888 rfl rfl ?_
    refine f_iload (M := mL_law) 891 dL_law_889 rfl rfl ?_
    refine f_iconst (M := mL_law) 892 dL_law_891 ki_2 rfl ?_
    refine f_iadd (M := mL_law) 893 dL_law_892 rfl ?_
    refine e_iaf (M := mL_law) (w := Lw) (f := xs) (j := (7 * N) + (2)) dL_law_893 (x_kk rfl) rfl (ix_add rfl kn_2) (by omega) (by omega) ?_
    refine e_cV (M := mL_law) [_] (c + 3) (k + 18) dL_law_894 pa_10202 pb_10202 cc_10202 rfl rfl rfl rfl rfl (show c + 3 ≤ 601024 by omega) (show k + 18 ≤ 7293034 by omega) rfl (h2) rfl ?_
    refine f_istore (M := mL_law) (ls' := [_, _, _, _, _, _, _, _]) 899 dL_law_897 rfl rfl rfl ?_
    refine f_aload_n (M := mL_law) 900 dL_law_899 rfl rfl ?_
    refine e_cV (M := mL_law) [_] (c + 3) (k + 18) dL_law_900 pa_10163 pb_10163 cc_10163 rfl rfl rfl rfl rfl (show c + 3 ≤ 601024 by omega) (show k + 18 ≤ 7293034 by omega) rfl (c_X9_thrown) rfl ?_
    refine f_iload (M := mL_law) 905 dL_law_903 rfl rfl ?_
    refine e_icmp_eqT (M := mL_law) 910 dL_law_905 rfl ht ?_
    refine f_iload (M := mL_law) 912 dL_law_910 rfl rfl ?_
    refine e_if_neT (M := mL_law) 927 dL_law_912 rfl z ?_
    refine f_goto (M := mL_law) 2888 dL_law_927 rfl ?_
    refine f_iinc (M := mL_law) (ls' := [_, _, _, _, _, _, _, _]) 2891 dL_law_2888 ki_7 rfl rfl rfl rfl ?_
    refine f_goto (M := mL_law) 23 dL_law_2891 rfl ?_
    rw [show Int32.ofNat (7 * N) + 7 = Int32.ofNat (7 * (N + 1)) from ix_add rfl kn_7]; exact hr
theorem law_11 (hlen : 7 * N + 7 ≤ Lw) (hLw : Lw ≤ 3584) (T : y_T N I L R) (hN : N < 512) (hc : c ≤ 233 + 4 * N) (hk : k ≤ 14655 + 24 * N) (hx : xs (7 * N) &&& 63 = Int32.ofNat 11) : y_Nx Lw xs N I L R c k w5 w6 w7 := by
  have sm : y_OI N (Lw, xs) mL_mostInfluentialPlot [.ref 0, .int (xs (7 * N + 1)), .ref 232] mX9_mostInfluentialPlot [.ref 225, .int (xs (7 * N + 1))] I L R := sim_mostInfluentialPlot (X := (Lw, xs)) T
  obtain ⟨k0, I1, L1, R1, v, I2, L2, h1, h2, ht, hv, T2⟩ := sm
  by_cases z : k0 = 0
  · refine ⟨I2, L2, R1, some (.int k0), some (.int v), w7, c + 2, k + 12, T2, by omega, by omega, fun r hr => ?_⟩
    refine e_tsI (j := 11) 930 dL_law_40 rfl (by rw [hx]; decide) (by decide) rfl rfl ?_
    refine f_aload_n (M := mL_law) 931 dL_law_930 rfl rfl ?_
    refine f_aload_n (M := mL_law) 932 dL_law_931 rfl rfl ?_
    refine f_iload (M := mL_law) 934 dL_law_932 rfl rfl ?_
    refine f_iconst (M := mL_law) 935 dL_law_934 ki_1 rfl ?_
    refine f_iadd (M := mL_law) 936 dL_law_935 rfl ?_
    refine e_iaf (M := mL_law) (w := Lw) (f := xs) (j := (7 * N) + (1)) dL_law_936 (x_kk rfl) rfl (ix_add rfl kn_1) (by omega) (by omega) ?_
    refine f_aload_n (M := mL_law) 938 dL_law_937 rfl rfl ?_
    refine e_cS (M := mL_law) [_] (c + 2) (k + 12) dL_law_938 pa_10203 cc_10203 rfl rfl rfl rfl rfl (show c + 2 ≤ 601024 by omega) (show k + 12 ≤ 7293034 by omega) rfl (h1) rfl ?_
    refine f_istore (M := mL_law) (ls' := [_, _, _, _, _, _, _, _]) 943 dL_law_941 rfl rfl rfl ?_
    refine f_aload_n (M := mL_law) 944 dL_law_943 rfl rfl ?_
    refine f_aload_n (M := mL_law) 945 dL_law_944 rfl rfl ?_
    refine f_iload (M := mL_law) 947 dL_law_945 rfl rfl ?_
    refine f_iconst (M := mL_law) 948 dL_law_947 ki_1 rfl ?_
    refine f_iadd (M := mL_law) 949 dL_law_948 rfl ?_
    refine e_iaf (M := mL_law) (w := Lw) (f := xs) (j := (7 * N) + (1)) dL_law_949 (x_kk rfl) rfl (ix_add rfl kn_1) (by omega) (by omega) ?_
    refine e_cV (M := mL_law) [_] (c + 2) (k + 12) dL_law_950 pa_10205 pb_10205 cc_10205 rfl rfl rfl rfl rfl (show c + 2 ≤ 601024 by omega) (show k + 12 ≤ 7293034 by omega) rfl (h2) rfl ?_
    refine f_istore (M := mL_law) (ls' := [_, _, _, _, _, _, _, _]) 955 dL_law_953 rfl rfl rfl ?_
    refine f_aload_n (M := mL_law) 956 dL_law_955 rfl rfl ?_
    refine e_cV (M := mL_law) [_] (c + 2) (k + 12) dL_law_956 pa_10163 pb_10163 cc_10163 rfl rfl rfl rfl rfl (show c + 2 ≤ 601024 by omega) (show k + 12 ≤ 7293034 by omega) rfl (c_X9_thrown) rfl ?_
    refine f_iload (M := mL_law) 961 dL_law_959 rfl rfl ?_
    refine e_icmp_eqT (M := mL_law) 966 dL_law_961 rfl ht ?_
    refine f_iload (M := mL_law) 968 dL_law_966 rfl rfl ?_
    refine e_if_neF (M := mL_law) 983 dL_law_968 rfl (fun q => q z) ?_
    refine f_aload_n (M := mL_law) 972 dL_law_971 rfl rfl ?_
    refine f_iconst (M := mL_law) 973 dL_law_972 ki_0 rfl ?_
    refine e_lld (M := mL_law) (w := 1) (j := 0) dL_law_973 (x_kk rfl) rfl kn_0 (by omega) (by omega) ?_
    refine f_iload (M := mL_law) 976 dL_law_974 rfl rfl ?_
    refine f_i2l (M := mL_law) 977 dL_law_976 rfl ?_
    refine f_lcmp (M := mL_law) 978 dL_law_977 rfl ?_
    refine e_if_eqT (M := mL_law) 983 dL_law_978 rfl (lc_eq.mpr (hv z)) ?_
    refine f_goto (M := mL_law) 2888 dL_law_983 rfl ?_
    refine f_iinc (M := mL_law) (ls' := [_, _, _, _, _, _, _, _]) 2891 dL_law_2888 ki_7 rfl rfl rfl rfl ?_
    refine f_goto (M := mL_law) 23 dL_law_2891 rfl ?_
    rw [show Int32.ofNat (7 * N) + 7 = Int32.ofNat (7 * (N + 1)) from ix_add rfl kn_7]; exact hr
  · refine ⟨I2, L2, R1, some (.int k0), some (.int v), w7, c + 2, k + 12, T2, by omega, by omega, fun r hr => ?_⟩
    refine e_tsI (j := 11) 930 dL_law_40 rfl (by rw [hx]; decide) (by decide) rfl rfl ?_
    refine f_aload_n (M := mL_law) 931 dL_law_930 rfl rfl ?_
    refine f_aload_n (M := mL_law) 932 dL_law_931 rfl rfl ?_
    refine f_iload (M := mL_law) 934 dL_law_932 rfl rfl ?_
    refine f_iconst (M := mL_law) 935 dL_law_934 ki_1 rfl ?_
    refine f_iadd (M := mL_law) 936 dL_law_935 rfl ?_
    refine e_iaf (M := mL_law) (w := Lw) (f := xs) (j := (7 * N) + (1)) dL_law_936 (x_kk rfl) rfl (ix_add rfl kn_1) (by omega) (by omega) ?_
    refine f_aload_n (M := mL_law) 938 dL_law_937 rfl rfl ?_
    refine e_cS (M := mL_law) [_] (c + 2) (k + 12) dL_law_938 pa_10203 cc_10203 rfl rfl rfl rfl rfl (show c + 2 ≤ 601024 by omega) (show k + 12 ≤ 7293034 by omega) rfl (h1) rfl ?_
    refine f_istore (M := mL_law) (ls' := [_, _, _, _, _, _, _, _]) 943 dL_law_941 rfl rfl rfl ?_
    refine f_aload_n (M := mL_law) 944 dL_law_943 rfl rfl ?_
    refine f_aload_n (M := mL_law) 945 dL_law_944 rfl rfl ?_
    refine f_iload (M := mL_law) 947 dL_law_945 rfl rfl ?_
    refine f_iconst (M := mL_law) 948 dL_law_947 ki_1 rfl ?_
    refine f_iadd (M := mL_law) 949 dL_law_948 rfl ?_
    refine e_iaf (M := mL_law) (w := Lw) (f := xs) (j := (7 * N) + (1)) dL_law_949 (x_kk rfl) rfl (ix_add rfl kn_1) (by omega) (by omega) ?_
    refine e_cV (M := mL_law) [_] (c + 2) (k + 12) dL_law_950 pa_10205 pb_10205 cc_10205 rfl rfl rfl rfl rfl (show c + 2 ≤ 601024 by omega) (show k + 12 ≤ 7293034 by omega) rfl (h2) rfl ?_
    refine f_istore (M := mL_law) (ls' := [_, _, _, _, _, _, _, _]) 955 dL_law_953 rfl rfl rfl ?_
    refine f_aload_n (M := mL_law) 956 dL_law_955 rfl rfl ?_
    refine e_cV (M := mL_law) [_] (c + 2) (k + 12) dL_law_956 pa_10163 pb_10163 cc_10163 rfl rfl rfl rfl rfl (show c + 2 ≤ 601024 by omega) (show k + 12 ≤ 7293034 by omega) rfl (c_X9_thrown) rfl ?_
    refine f_iload (M := mL_law) 961 dL_law_959 rfl rfl ?_
    refine e_icmp_eqT (M := mL_law) 966 dL_law_961 rfl ht ?_
    refine f_iload (M := mL_law) 968 dL_law_966 rfl rfl ?_
    refine e_if_neT (M := mL_law) 983 dL_law_968 rfl z ?_
    refine f_goto (M := mL_law) 2888 dL_law_983 rfl ?_
    refine f_iinc (M := mL_law) (ls' := [_, _, _, _, _, _, _, _]) 2891 dL_law_2888 ki_7 rfl rfl rfl rfl ?_
    refine f_goto (M := mL_law) 23 dL_law_2891 rfl ?_
    rw [show Int32.ofNat (7 * N) + 7 = Int32.ofNat (7 * (N + 1)) from ix_add rfl kn_7]; exact hr
theorem law_12 (hlen : 7 * N + 7 ≤ Lw) (hLw : Lw ≤ 3584) (T : y_T N I L R) (hN : N < 512) (hc : c ≤ 233 + 4 * N) (hk : k ≤ 14655 + 24 * N) (hx : xs (7 * N) &&& 63 = Int32.ofNat 12) : y_Nx Lw xs N I L R c k w5 w6 w7 := by
  have sm : y_OI N (Lw, xs) mL_advertise [.ref 0, .ref 232] mX9_advertise [.ref 225] I L R := sim_advertise (X := (Lw, xs)) T
  obtain ⟨k0, I1, L1, R1, v, I2, L2, h1, h2, ht, hv, T2⟩ := sm
  by_cases z : k0 = 0
  · refine ⟨I2, L2, R1, some (.int k0), some (.int v), w7, c + 1, k + 6, T2, by omega, by omega, fun r hr => ?_⟩
    refine e_tsI (j := 12) 986 dL_law_40 rfl (by rw [hx]; decide) (by decide) rfl rfl ?_
    refine f_aload_n (M := mL_law) 987 dL_law_986 rfl rfl ?_
    refine f_aload_n (M := mL_law) 988 dL_law_987 rfl rfl ?_
    refine e_cS (M := mL_law) [_] (c + 1) (k + 6) dL_law_988 pa_10206 cc_10206 rfl rfl rfl rfl rfl (show c + 1 ≤ 601024 by omega) (show k + 6 ≤ 7293034 by omega) rfl (h1) rfl ?_
    refine f_istore (M := mL_law) (ls' := [_, _, _, _, _, _, _, _]) 993 dL_law_991 rfl rfl rfl ?_
    refine f_aload_n (M := mL_law) 994 dL_law_993 rfl rfl ?_
    refine e_cV (M := mL_law) [_] (c + 1) (k + 6) dL_law_994 pa_10209 pb_10209 cc_10209 rfl rfl rfl rfl rfl (show c + 1 ≤ 601024 by omega) (show k + 6 ≤ 7293034 by omega) rfl (h2) rfl ?_
    refine f_istore (M := mL_law) (ls' := [_, _, _, _, _, _, _, _]) 999 dL_law_997 rfl rfl rfl ?_
    refine f_aload_n (M := mL_law) 1000 dL_law_999 rfl rfl ?_
    refine e_cV (M := mL_law) [_] (c + 1) (k + 6) dL_law_1000 pa_10163 pb_10163 cc_10163 rfl rfl rfl rfl rfl (show c + 1 ≤ 601024 by omega) (show k + 6 ≤ 7293034 by omega) rfl (c_X9_thrown) rfl ?_
    refine f_iload (M := mL_law) 1005 dL_law_1003 rfl rfl ?_
    refine e_icmp_eqT (M := mL_law) 1010 dL_law_1005 rfl ht ?_
    refine f_iload (M := mL_law) 1012 dL_law_1010 rfl rfl ?_
    refine e_if_neF (M := mL_law) 1027 dL_law_1012 rfl (fun q => q z) ?_
    refine f_aload_n (M := mL_law) 1016 dL_law_1015 rfl rfl ?_
    refine f_iconst (M := mL_law) 1017 dL_law_1016 ki_0 rfl ?_
    refine e_lld (M := mL_law) (w := 1) (j := 0) dL_law_1017 (x_kk rfl) rfl kn_0 (by omega) (by omega) ?_
    refine f_iload (M := mL_law) 1020 dL_law_1018 rfl rfl ?_
    refine f_i2l (M := mL_law) 1021 dL_law_1020 rfl ?_
    refine f_lcmp (M := mL_law) 1022 dL_law_1021 rfl ?_
    refine e_if_eqT (M := mL_law) 1027 dL_law_1022 rfl (lc_eq.mpr (hv z)) ?_
    refine f_goto (M := mL_law) 2888 dL_law_1027 rfl ?_
    refine f_iinc (M := mL_law) (ls' := [_, _, _, _, _, _, _, _]) 2891 dL_law_2888 ki_7 rfl rfl rfl rfl ?_
    refine f_goto (M := mL_law) 23 dL_law_2891 rfl ?_
    rw [show Int32.ofNat (7 * N) + 7 = Int32.ofNat (7 * (N + 1)) from ix_add rfl kn_7]; exact hr
  · refine ⟨I2, L2, R1, some (.int k0), some (.int v), w7, c + 1, k + 6, T2, by omega, by omega, fun r hr => ?_⟩
    refine e_tsI (j := 12) 986 dL_law_40 rfl (by rw [hx]; decide) (by decide) rfl rfl ?_
    refine f_aload_n (M := mL_law) 987 dL_law_986 rfl rfl ?_
    refine f_aload_n (M := mL_law) 988 dL_law_987 rfl rfl ?_
    refine e_cS (M := mL_law) [_] (c + 1) (k + 6) dL_law_988 pa_10206 cc_10206 rfl rfl rfl rfl rfl (show c + 1 ≤ 601024 by omega) (show k + 6 ≤ 7293034 by omega) rfl (h1) rfl ?_
    refine f_istore (M := mL_law) (ls' := [_, _, _, _, _, _, _, _]) 993 dL_law_991 rfl rfl rfl ?_
    refine f_aload_n (M := mL_law) 994 dL_law_993 rfl rfl ?_
    refine e_cV (M := mL_law) [_] (c + 1) (k + 6) dL_law_994 pa_10209 pb_10209 cc_10209 rfl rfl rfl rfl rfl (show c + 1 ≤ 601024 by omega) (show k + 6 ≤ 7293034 by omega) rfl (h2) rfl ?_
    refine f_istore (M := mL_law) (ls' := [_, _, _, _, _, _, _, _]) 999 dL_law_997 rfl rfl rfl ?_
    refine f_aload_n (M := mL_law) 1000 dL_law_999 rfl rfl ?_
    refine e_cV (M := mL_law) [_] (c + 1) (k + 6) dL_law_1000 pa_10163 pb_10163 cc_10163 rfl rfl rfl rfl rfl (show c + 1 ≤ 601024 by omega) (show k + 6 ≤ 7293034 by omega) rfl (c_X9_thrown) rfl ?_
    refine f_iload (M := mL_law) 1005 dL_law_1003 rfl rfl ?_
    refine e_icmp_eqT (M := mL_law) 1010 dL_law_1005 rfl ht ?_
    refine f_iload (M := mL_law) 1012 dL_law_1010 rfl rfl ?_
    refine e_if_neT (M := mL_law) 1027 dL_law_1012 rfl z ?_
    refine f_goto (M := mL_law) 2888 dL_law_1027 rfl ?_
    refine f_iinc (M := mL_law) (ls' := [_, _, _, _, _, _, _, _]) 2891 dL_law_2888 ki_7 rfl rfl rfl rfl ?_
    refine f_goto (M := mL_law) 23 dL_law_2891 rfl ?_
    rw [show Int32.ofNat (7 * N) + 7 = Int32.ofNat (7 * (N + 1)) from ix_add rfl kn_7]; exact hr
theorem law_13 (hlen : 7 * N + 7 ≤ Lw) (hLw : Lw ≤ 3584) (T : y_T N I L R) (hN : N < 512) (hc : c ≤ 233 + 4 * N) (hk : k ≤ 14655 + 24 * N) (hx : xs (7 * N) &&& 63 = Int32.ofNat 13) : y_Nx Lw xs N I L R c k w5 w6 w7 := by
  have sm : y_OI N (Lw, xs) mL_volume [.ref 0, .int (xs (7 * N + 1)), .ref 232] mX9_volume [.ref 225, .int (xs (7 * N + 1))] I L R := sim_volume (X := (Lw, xs)) T
  obtain ⟨k0, I1, L1, R1, v, I2, L2, h1, h2, ht, hv, T2⟩ := sm
  by_cases z : k0 = 0
  · refine ⟨I2, L2, R1, some (.int k0), some (.int v), w7, c + 2, k + 12, T2, by omega, by omega, fun r hr => ?_⟩
    refine e_tsI (j := 13) 1030 dL_law_40 rfl (by rw [hx]; decide) (by decide) rfl rfl ?_
    refine f_aload_n (M := mL_law) 1031 dL_law_1030 rfl rfl ?_
    refine f_aload_n (M := mL_law) 1032 dL_law_1031 rfl rfl ?_
    refine f_iload (M := mL_law) 1034 dL_law_1032 rfl rfl ?_
    refine f_iconst (M := mL_law) 1035 dL_law_1034 ki_1 rfl ?_
    refine f_iadd (M := mL_law) 1036 dL_law_1035 rfl ?_
    refine e_iaf (M := mL_law) (w := Lw) (f := xs) (j := (7 * N) + (1)) dL_law_1036 (x_kk rfl) rfl (ix_add rfl kn_1) (by omega) (by omega) ?_
    refine f_aload_n (M := mL_law) 1038 dL_law_1037 rfl rfl ?_
    refine e_cS (M := mL_law) [_] (c + 2) (k + 12) dL_law_1038 pa_10210 cc_10210 rfl rfl rfl rfl rfl (show c + 2 ≤ 601024 by omega) (show k + 12 ≤ 7293034 by omega) rfl (h1) rfl ?_
    refine f_istore (M := mL_law) (ls' := [_, _, _, _, _, _, _, _]) 1043 dL_law_1041 rfl rfl rfl ?_
    refine f_aload_n (M := mL_law) 1044 dL_law_1043 rfl rfl ?_
    refine f_aload_n (M := mL_law) 1045 dL_law_1044 rfl rfl ?_
    refine f_iload (M := mL_law) 1047 dL_law_1045 rfl rfl ?_
    refine f_iconst (M := mL_law) 1048 dL_law_1047 ki_1 rfl ?_
    refine f_iadd (M := mL_law) 1049 dL_law_1048 rfl ?_
    refine e_iaf (M := mL_law) (w := Lw) (f := xs) (j := (7 * N) + (1)) dL_law_1049 (x_kk rfl) rfl (ix_add rfl kn_1) (by omega) (by omega) ?_
    refine e_cV (M := mL_law) [_] (c + 2) (k + 12) dL_law_1050 pa_10212 pb_10212 cc_10212 rfl rfl rfl rfl rfl (show c + 2 ≤ 601024 by omega) (show k + 12 ≤ 7293034 by omega) rfl (h2) rfl ?_
    refine f_istore (M := mL_law) (ls' := [_, _, _, _, _, _, _, _]) 1055 dL_law_1053 rfl rfl rfl ?_
    refine f_aload_n (M := mL_law) 1056 dL_law_1055 rfl rfl ?_
    refine e_cV (M := mL_law) [_] (c + 2) (k + 12) dL_law_1056 pa_10163 pb_10163 cc_10163 rfl rfl rfl rfl rfl (show c + 2 ≤ 601024 by omega) (show k + 12 ≤ 7293034 by omega) rfl (c_X9_thrown) rfl ?_
    refine f_iload (M := mL_law) 1061 dL_law_1059 rfl rfl ?_
    refine e_icmp_eqT (M := mL_law) 1066 dL_law_1061 rfl ht ?_
    refine f_iload (M := mL_law) 1068 dL_law_1066 rfl rfl ?_
    refine e_if_neF (M := mL_law) 1083 dL_law_1068 rfl (fun q => q z) ?_
    refine f_aload_n (M := mL_law) 1072 dL_law_1071 rfl rfl ?_
    refine f_iconst (M := mL_law) 1073 dL_law_1072 ki_0 rfl ?_
    refine e_lld (M := mL_law) (w := 1) (j := 0) dL_law_1073 (x_kk rfl) rfl kn_0 (by omega) (by omega) ?_
    refine f_iload (M := mL_law) 1076 dL_law_1074 rfl rfl ?_
    refine f_i2l (M := mL_law) 1077 dL_law_1076 rfl ?_
    refine f_lcmp (M := mL_law) 1078 dL_law_1077 rfl ?_
    refine e_if_eqT (M := mL_law) 1083 dL_law_1078 rfl (lc_eq.mpr (hv z)) ?_
    refine f_goto (M := mL_law) 2888 dL_law_1083 rfl ?_
    refine f_iinc (M := mL_law) (ls' := [_, _, _, _, _, _, _, _]) 2891 dL_law_2888 ki_7 rfl rfl rfl rfl ?_
    refine f_goto (M := mL_law) 23 dL_law_2891 rfl ?_
    rw [show Int32.ofNat (7 * N) + 7 = Int32.ofNat (7 * (N + 1)) from ix_add rfl kn_7]; exact hr
  · refine ⟨I2, L2, R1, some (.int k0), some (.int v), w7, c + 2, k + 12, T2, by omega, by omega, fun r hr => ?_⟩
    refine e_tsI (j := 13) 1030 dL_law_40 rfl (by rw [hx]; decide) (by decide) rfl rfl ?_
    refine f_aload_n (M := mL_law) 1031 dL_law_1030 rfl rfl ?_
    refine f_aload_n (M := mL_law) 1032 dL_law_1031 rfl rfl ?_
    refine f_iload (M := mL_law) 1034 dL_law_1032 rfl rfl ?_
    refine f_iconst (M := mL_law) 1035 dL_law_1034 ki_1 rfl ?_
    refine f_iadd (M := mL_law) 1036 dL_law_1035 rfl ?_
    refine e_iaf (M := mL_law) (w := Lw) (f := xs) (j := (7 * N) + (1)) dL_law_1036 (x_kk rfl) rfl (ix_add rfl kn_1) (by omega) (by omega) ?_
    refine f_aload_n (M := mL_law) 1038 dL_law_1037 rfl rfl ?_
    refine e_cS (M := mL_law) [_] (c + 2) (k + 12) dL_law_1038 pa_10210 cc_10210 rfl rfl rfl rfl rfl (show c + 2 ≤ 601024 by omega) (show k + 12 ≤ 7293034 by omega) rfl (h1) rfl ?_
    refine f_istore (M := mL_law) (ls' := [_, _, _, _, _, _, _, _]) 1043 dL_law_1041 rfl rfl rfl ?_
    refine f_aload_n (M := mL_law) 1044 dL_law_1043 rfl rfl ?_
    refine f_aload_n (M := mL_law) 1045 dL_law_1044 rfl rfl ?_
    refine f_iload (M := mL_law) 1047 dL_law_1045 rfl rfl ?_
    refine f_iconst (M := mL_law) 1048 dL_law_1047 ki_1 rfl ?_
    refine f_iadd (M := mL_law) 1049 dL_law_1048 rfl ?_
    refine e_iaf (M := mL_law) (w := Lw) (f := xs) (j := (7 * N) + (1)) dL_law_1049 (x_kk rfl) rfl (ix_add rfl kn_1) (by omega) (by omega) ?_
    refine e_cV (M := mL_law) [_] (c + 2) (k + 12) dL_law_1050 pa_10212 pb_10212 cc_10212 rfl rfl rfl rfl rfl (show c + 2 ≤ 601024 by omega) (show k + 12 ≤ 7293034 by omega) rfl (h2) rfl ?_
    refine f_istore (M := mL_law) (ls' := [_, _, _, _, _, _, _, _]) 1055 dL_law_1053 rfl rfl rfl ?_
    refine f_aload_n (M := mL_law) 1056 dL_law_1055 rfl rfl ?_
    refine e_cV (M := mL_law) [_] (c + 2) (k + 12) dL_law_1056 pa_10163 pb_10163 cc_10163 rfl rfl rfl rfl rfl (show c + 2 ≤ 601024 by omega) (show k + 12 ≤ 7293034 by omega) rfl (c_X9_thrown) rfl ?_
    refine f_iload (M := mL_law) 1061 dL_law_1059 rfl rfl ?_
    refine e_icmp_eqT (M := mL_law) 1066 dL_law_1061 rfl ht ?_
    refine f_iload (M := mL_law) 1068 dL_law_1066 rfl rfl ?_
    refine e_if_neT (M := mL_law) 1083 dL_law_1068 rfl z ?_
    refine f_goto (M := mL_law) 2888 dL_law_1083 rfl ?_
    refine f_iinc (M := mL_law) (ls' := [_, _, _, _, _, _, _, _]) 2891 dL_law_2888 ki_7 rfl rfl rfl rfl ?_
    refine f_goto (M := mL_law) 23 dL_law_2891 rfl ?_
    rw [show Int32.ofNat (7 * N) + 7 = Int32.ofNat (7 * (N + 1)) from ix_add rfl kn_7]; exact hr
theorem law_14 (hlen : 7 * N + 7 ≤ Lw) (hLw : Lw ≤ 3584) (T : y_T N I L R) (hN : N < 512) (hc : c ≤ 233 + 4 * N) (hk : k ≤ 14655 + 24 * N) (hx : xs (7 * N) &&& 63 = Int32.ofNat 14) : y_Nx Lw xs N I L R c k w5 w6 w7 := by
  have sm : y_OI N (Lw, xs) mL_offer [.ref 0, .int (xs (7 * N + 1)), .int (xs (7 * N + 2)), .int (xs (7 * N + 3)), .ref 232] mX9_offer [.ref 225, .int (xs (7 * N + 1)), .int (xs (7 * N + 2)), .int (xs (7 * N + 3))] I L R := sim_offer (X := (Lw, xs)) T
  obtain ⟨k0, I1, L1, R1, v, I2, L2, h1, h2, ht, hv, T2⟩ := sm
  by_cases z : k0 = 0
  · refine ⟨I2, L2, R1, some (.int k0), some (.int v), w7, c + 3, k + 18, T2, by omega, by omega, fun r hr => ?_⟩
    refine e_tsI (j := 14) 1086 dL_law_40 rfl (by rw [hx]; decide) (by decide) rfl rfl ?_
    refine f_aload_n (M := mL_law) 1087 dL_law_1086 rfl rfl ?_
    refine f_aload_n (M := mL_law) 1088 dL_law_1087 rfl rfl ?_
    refine f_iload (M := mL_law) 1090 dL_law_1088 rfl rfl ?_
    refine f_iconst (M := mL_law) 1091 dL_law_1090 ki_1 rfl ?_
    refine f_iadd (M := mL_law) 1092 dL_law_1091 rfl ?_
    refine e_iaf (M := mL_law) (w := Lw) (f := xs) (j := (7 * N) + (1)) dL_law_1092 (x_kk rfl) rfl (ix_add rfl kn_1) (by omega) (by omega) ?_
    refine f_aload_n (M := mL_law) 1094 dL_law_1093 rfl rfl ?_
    refine f_iload (M := mL_law) 1096 dL_law_1094 rfl rfl ?_
    refine f_iconst (M := mL_law) 1097 dL_law_1096 ki_2 rfl ?_
    refine f_iadd (M := mL_law) 1098 dL_law_1097 rfl ?_
    refine e_iaf (M := mL_law) (w := Lw) (f := xs) (j := (7 * N) + (2)) dL_law_1098 (x_kk rfl) rfl (ix_add rfl kn_2) (by omega) (by omega) ?_
    refine f_aload_n (M := mL_law) 1100 dL_law_1099 rfl rfl ?_
    refine f_iload (M := mL_law) 1102 dL_law_1100 rfl rfl ?_
    refine f_iconst (M := mL_law) 1103 dL_law_1102 ki_3 rfl ?_
    refine f_iadd (M := mL_law) 1104 dL_law_1103 rfl ?_
    refine e_iaf (M := mL_law) (w := Lw) (f := xs) (j := (7 * N) + (3)) dL_law_1104 (x_kk rfl) rfl (ix_add rfl kn_3) (by omega) (by omega) ?_
    refine f_aload_n (M := mL_law) 1106 dL_law_1105 rfl rfl ?_
    refine e_cS (M := mL_law) [_] (c + 3) (k + 18) dL_law_1106 pa_10213 cc_10213 rfl rfl rfl rfl rfl (show c + 3 ≤ 601024 by omega) (show k + 18 ≤ 7293034 by omega) rfl (h1) rfl ?_
    refine f_istore (M := mL_law) (ls' := [_, _, _, _, _, _, _, _]) 1111 dL_law_1109 rfl rfl rfl ?_
    refine f_aload_n (M := mL_law) 1112 dL_law_1111 rfl rfl ?_
    refine f_aload_n (M := mL_law) 1113 dL_law_1112 rfl rfl ?_
    refine f_iload (M := mL_law) 1115 dL_law_1113 rfl rfl ?_
    refine f_iconst (M := mL_law) 1116 dL_law_1115 ki_1 rfl ?_
    refine f_iadd (M := mL_law) 1117 dL_law_1116 rfl ?_
    refine e_iaf (M := mL_law) (w := Lw) (f := xs) (j := (7 * N) + (1)) dL_law_1117 (x_kk rfl) rfl (ix_add rfl kn_1) (by omega) (by omega) ?_
    refine f_aload_n (M := mL_law) 1119 dL_law_1118 rfl rfl ?_
    refine f_iload (M := mL_law) 1121 dL_law_1119 rfl rfl ?_
    refine f_iconst (M := mL_law) 1122 dL_law_1121 ki_2 rfl ?_
    refine f_iadd (M := mL_law) 1123 dL_law_1122 rfl ?_
    refine e_iaf (M := mL_law) (w := Lw) (f := xs) (j := (7 * N) + (2)) dL_law_1123 (x_kk rfl) rfl (ix_add rfl kn_2) (by omega) (by omega) ?_
    refine f_aload_n (M := mL_law) 1125 dL_law_1124 rfl rfl ?_
    refine f_iload (M := mL_law) 1127 dL_law_1125 rfl rfl ?_
    refine f_iconst (M := mL_law) 1128 dL_law_1127 ki_3 rfl ?_
    refine f_iadd (M := mL_law) 1129 dL_law_1128 rfl ?_
    refine e_iaf (M := mL_law) (w := Lw) (f := xs) (j := (7 * N) + (3)) dL_law_1129 (x_kk rfl) rfl (ix_add rfl kn_3) (by omega) (by omega) ?_
    refine e_cV (M := mL_law) [_] (c + 3) (k + 18) dL_law_1130 pa_10216 pb_10216 cc_10216 rfl rfl rfl rfl rfl (show c + 3 ≤ 601024 by omega) (show k + 18 ≤ 7293034 by omega) rfl (h2) rfl ?_
    refine f_istore (M := mL_law) (ls' := [_, _, _, _, _, _, _, _]) 1135 dL_law_1133 rfl rfl rfl ?_
    refine f_aload_n (M := mL_law) 1136 dL_law_1135 rfl rfl ?_
    refine e_cV (M := mL_law) [_] (c + 3) (k + 18) dL_law_1136 pa_10163 pb_10163 cc_10163 rfl rfl rfl rfl rfl (show c + 3 ≤ 601024 by omega) (show k + 18 ≤ 7293034 by omega) rfl (c_X9_thrown) rfl ?_
    refine f_iload (M := mL_law) 1141 dL_law_1139 rfl rfl ?_
    refine e_icmp_eqT (M := mL_law) 1146 dL_law_1141 rfl ht ?_
    refine f_iload (M := mL_law) 1148 dL_law_1146 rfl rfl ?_
    refine e_if_neF (M := mL_law) 1163 dL_law_1148 rfl (fun q => q z) ?_
    refine f_aload_n (M := mL_law) 1152 dL_law_1151 rfl rfl ?_
    refine f_iconst (M := mL_law) 1153 dL_law_1152 ki_0 rfl ?_
    refine e_lld (M := mL_law) (w := 1) (j := 0) dL_law_1153 (x_kk rfl) rfl kn_0 (by omega) (by omega) ?_
    refine f_iload (M := mL_law) 1156 dL_law_1154 rfl rfl ?_
    refine f_i2l (M := mL_law) 1157 dL_law_1156 rfl ?_
    refine f_lcmp (M := mL_law) 1158 dL_law_1157 rfl ?_
    refine e_if_eqT (M := mL_law) 1163 dL_law_1158 rfl (lc_eq.mpr (hv z)) ?_
    refine f_goto (M := mL_law) 2888 dL_law_1163 rfl ?_
    refine f_iinc (M := mL_law) (ls' := [_, _, _, _, _, _, _, _]) 2891 dL_law_2888 ki_7 rfl rfl rfl rfl ?_
    refine f_goto (M := mL_law) 23 dL_law_2891 rfl ?_
    rw [show Int32.ofNat (7 * N) + 7 = Int32.ofNat (7 * (N + 1)) from ix_add rfl kn_7]; exact hr
  · refine ⟨I2, L2, R1, some (.int k0), some (.int v), w7, c + 3, k + 18, T2, by omega, by omega, fun r hr => ?_⟩
    refine e_tsI (j := 14) 1086 dL_law_40 rfl (by rw [hx]; decide) (by decide) rfl rfl ?_
    refine f_aload_n (M := mL_law) 1087 dL_law_1086 rfl rfl ?_
    refine f_aload_n (M := mL_law) 1088 dL_law_1087 rfl rfl ?_
    refine f_iload (M := mL_law) 1090 dL_law_1088 rfl rfl ?_
    refine f_iconst (M := mL_law) 1091 dL_law_1090 ki_1 rfl ?_
    refine f_iadd (M := mL_law) 1092 dL_law_1091 rfl ?_
    refine e_iaf (M := mL_law) (w := Lw) (f := xs) (j := (7 * N) + (1)) dL_law_1092 (x_kk rfl) rfl (ix_add rfl kn_1) (by omega) (by omega) ?_
    refine f_aload_n (M := mL_law) 1094 dL_law_1093 rfl rfl ?_
    refine f_iload (M := mL_law) 1096 dL_law_1094 rfl rfl ?_
    refine f_iconst (M := mL_law) 1097 dL_law_1096 ki_2 rfl ?_
    refine f_iadd (M := mL_law) 1098 dL_law_1097 rfl ?_
    refine e_iaf (M := mL_law) (w := Lw) (f := xs) (j := (7 * N) + (2)) dL_law_1098 (x_kk rfl) rfl (ix_add rfl kn_2) (by omega) (by omega) ?_
    refine f_aload_n (M := mL_law) 1100 dL_law_1099 rfl rfl ?_
    refine f_iload (M := mL_law) 1102 dL_law_1100 rfl rfl ?_
    refine f_iconst (M := mL_law) 1103 dL_law_1102 ki_3 rfl ?_
    refine f_iadd (M := mL_law) 1104 dL_law_1103 rfl ?_
    refine e_iaf (M := mL_law) (w := Lw) (f := xs) (j := (7 * N) + (3)) dL_law_1104 (x_kk rfl) rfl (ix_add rfl kn_3) (by omega) (by omega) ?_
    refine f_aload_n (M := mL_law) 1106 dL_law_1105 rfl rfl ?_
    refine e_cS (M := mL_law) [_] (c + 3) (k + 18) dL_law_1106 pa_10213 cc_10213 rfl rfl rfl rfl rfl (show c + 3 ≤ 601024 by omega) (show k + 18 ≤ 7293034 by omega) rfl (h1) rfl ?_
    refine f_istore (M := mL_law) (ls' := [_, _, _, _, _, _, _, _]) 1111 dL_law_1109 rfl rfl rfl ?_
    refine f_aload_n (M := mL_law) 1112 dL_law_1111 rfl rfl ?_
    refine f_aload_n (M := mL_law) 1113 dL_law_1112 rfl rfl ?_
    refine f_iload (M := mL_law) 1115 dL_law_1113 rfl rfl ?_
    refine f_iconst (M := mL_law) 1116 dL_law_1115 ki_1 rfl ?_
    refine f_iadd (M := mL_law) 1117 dL_law_1116 rfl ?_
    refine e_iaf (M := mL_law) (w := Lw) (f := xs) (j := (7 * N) + (1)) dL_law_1117 (x_kk rfl) rfl (ix_add rfl kn_1) (by omega) (by omega) ?_
    refine f_aload_n (M := mL_law) 1119 dL_law_1118 rfl rfl ?_
    refine f_iload (M := mL_law) 1121 dL_law_1119 rfl rfl ?_
    refine f_iconst (M := mL_law) 1122 dL_law_1121 ki_2 rfl ?_
    refine f_iadd (M := mL_law) 1123 dL_law_1122 rfl ?_
    refine e_iaf (M := mL_law) (w := Lw) (f := xs) (j := (7 * N) + (2)) dL_law_1123 (x_kk rfl) rfl (ix_add rfl kn_2) (by omega) (by omega) ?_
    refine f_aload_n (M := mL_law) 1125 dL_law_1124 rfl rfl ?_
    refine f_iload (M := mL_law) 1127 dL_law_1125 rfl rfl ?_
    refine f_iconst (M := mL_law) 1128 dL_law_1127 ki_3 rfl ?_
    refine f_iadd (M := mL_law) 1129 dL_law_1128 rfl ?_
    refine e_iaf (M := mL_law) (w := Lw) (f := xs) (j := (7 * N) + (3)) dL_law_1129 (x_kk rfl) rfl (ix_add rfl kn_3) (by omega) (by omega) ?_
    refine e_cV (M := mL_law) [_] (c + 3) (k + 18) dL_law_1130 pa_10216 pb_10216 cc_10216 rfl rfl rfl rfl rfl (show c + 3 ≤ 601024 by omega) (show k + 18 ≤ 7293034 by omega) rfl (h2) rfl ?_
    refine f_istore (M := mL_law) (ls' := [_, _, _, _, _, _, _, _]) 1135 dL_law_1133 rfl rfl rfl ?_
    refine f_aload_n (M := mL_law) 1136 dL_law_1135 rfl rfl ?_
    refine e_cV (M := mL_law) [_] (c + 3) (k + 18) dL_law_1136 pa_10163 pb_10163 cc_10163 rfl rfl rfl rfl rfl (show c + 3 ≤ 601024 by omega) (show k + 18 ≤ 7293034 by omega) rfl (c_X9_thrown) rfl ?_
    refine f_iload (M := mL_law) 1141 dL_law_1139 rfl rfl ?_
    refine e_icmp_eqT (M := mL_law) 1146 dL_law_1141 rfl ht ?_
    refine f_iload (M := mL_law) 1148 dL_law_1146 rfl rfl ?_
    refine e_if_neT (M := mL_law) 1163 dL_law_1148 rfl z ?_
    refine f_goto (M := mL_law) 2888 dL_law_1163 rfl ?_
    refine f_iinc (M := mL_law) (ls' := [_, _, _, _, _, _, _, _]) 2891 dL_law_2888 ki_7 rfl rfl rfl rfl ?_
    refine f_goto (M := mL_law) 23 dL_law_2891 rfl ?_
    rw [show Int32.ofNat (7 * N) + 7 = Int32.ofNat (7 * (N + 1)) from ix_add rfl kn_7]; exact hr
theorem law_15 (hlen : 7 * N + 7 ≤ Lw) (hLw : Lw ≤ 3584) (T : y_T N I L R) (hN : N < 512) (hc : c ≤ 233 + 4 * N) (hk : k ≤ 14655 + 24 * N) (hx : xs (7 * N) &&& 63 = Int32.ofNat 15) : y_Nx Lw xs N I L R c k w5 w6 w7 := by
  have sm : y_OI N (Lw, xs) mL_setDeposit [.ref 0, .int (xs (7 * N + 1)), .int (xs (7 * N + 2)), .ref 232] mX9_setDeposit [.ref 225, .int (xs (7 * N + 1)), .int (xs (7 * N + 2))] I L R := sim_setDeposit (X := (Lw, xs)) T
  obtain ⟨k0, I1, L1, R1, v, I2, L2, h1, h2, ht, hv, T2⟩ := sm
  by_cases z : k0 = 0
  · refine ⟨I2, L2, R1, some (.int k0), some (.int v), w7, c + 3, k + 18, T2, by omega, by omega, fun r hr => ?_⟩
    refine e_tsI (j := 15) 1166 dL_law_40 rfl (by rw [hx]; decide) (by decide) rfl rfl ?_
    refine f_aload_n (M := mL_law) 1167 dL_law_1166 rfl rfl ?_
    refine f_aload_n (M := mL_law) 1168 dL_law_1167 rfl rfl ?_
    refine f_iload (M := mL_law) 1170 dL_law_1168 rfl rfl ?_
    refine f_iconst (M := mL_law) 1171 dL_law_1170 ki_1 rfl ?_
    refine f_iadd (M := mL_law) 1172 dL_law_1171 rfl ?_
    refine e_iaf (M := mL_law) (w := Lw) (f := xs) (j := (7 * N) + (1)) dL_law_1172 (x_kk rfl) rfl (ix_add rfl kn_1) (by omega) (by omega) ?_
    refine f_aload_n (M := mL_law) 1174 dL_law_1173 rfl rfl ?_
    refine f_iload (M := mL_law) 1176 dL_law_1174 rfl rfl ?_
    refine f_iconst (M := mL_law) 1177 dL_law_1176 ki_2 rfl ?_
    refine f_iadd (M := mL_law) 1178 dL_law_1177 rfl ?_
    refine e_iaf (M := mL_law) (w := Lw) (f := xs) (j := (7 * N) + (2)) dL_law_1178 (x_kk rfl) rfl (ix_add rfl kn_2) (by omega) (by omega) ?_
    refine f_aload_n (M := mL_law) 1180 dL_law_1179 rfl rfl ?_
    refine e_cS (M := mL_law) [_] (c + 3) (k + 18) dL_law_1180 pa_10217 cc_10217 rfl rfl rfl rfl rfl (show c + 3 ≤ 601024 by omega) (show k + 18 ≤ 7293034 by omega) rfl (h1) rfl ?_
    refine f_istore (M := mL_law) (ls' := [_, _, _, _, _, _, _, _]) 1185 dL_law_1183 rfl rfl rfl ?_
    refine f_aload_n (M := mL_law) 1186 dL_law_1185 rfl rfl ?_
    refine f_aload_n (M := mL_law) 1187 dL_law_1186 rfl rfl ?_
    refine f_iload (M := mL_law) 1189 dL_law_1187 rfl rfl ?_
    refine f_iconst (M := mL_law) 1190 dL_law_1189 ki_1 rfl ?_
    refine f_iadd (M := mL_law) 1191 dL_law_1190 rfl ?_
    refine e_iaf (M := mL_law) (w := Lw) (f := xs) (j := (7 * N) + (1)) dL_law_1191 (x_kk rfl) rfl (ix_add rfl kn_1) (by omega) (by omega) ?_
    refine f_aload_n (M := mL_law) 1193 dL_law_1192 rfl rfl ?_
    refine f_iload (M := mL_law) 1195 dL_law_1193 rfl rfl ?_
    refine f_iconst (M := mL_law) 1196 dL_law_1195 ki_2 rfl ?_
    refine f_iadd (M := mL_law) 1197 dL_law_1196 rfl ?_
    refine e_iaf (M := mL_law) (w := Lw) (f := xs) (j := (7 * N) + (2)) dL_law_1197 (x_kk rfl) rfl (ix_add rfl kn_2) (by omega) (by omega) ?_
    refine e_cV (M := mL_law) [_] (c + 3) (k + 18) dL_law_1198 pa_10219 pb_10219 cc_10219 rfl rfl rfl rfl rfl (show c + 3 ≤ 601024 by omega) (show k + 18 ≤ 7293034 by omega) rfl (h2) rfl ?_
    refine f_istore (M := mL_law) (ls' := [_, _, _, _, _, _, _, _]) 1203 dL_law_1201 rfl rfl rfl ?_
    refine f_aload_n (M := mL_law) 1204 dL_law_1203 rfl rfl ?_
    refine e_cV (M := mL_law) [_] (c + 3) (k + 18) dL_law_1204 pa_10163 pb_10163 cc_10163 rfl rfl rfl rfl rfl (show c + 3 ≤ 601024 by omega) (show k + 18 ≤ 7293034 by omega) rfl (c_X9_thrown) rfl ?_
    refine f_iload (M := mL_law) 1209 dL_law_1207 rfl rfl ?_
    refine e_icmp_eqT (M := mL_law) 1214 dL_law_1209 rfl ht ?_
    refine f_iload (M := mL_law) 1216 dL_law_1214 rfl rfl ?_
    refine e_if_neF (M := mL_law) 1231 dL_law_1216 rfl (fun q => q z) ?_
    refine f_aload_n (M := mL_law) 1220 dL_law_1219 rfl rfl ?_
    refine f_iconst (M := mL_law) 1221 dL_law_1220 ki_0 rfl ?_
    refine e_lld (M := mL_law) (w := 1) (j := 0) dL_law_1221 (x_kk rfl) rfl kn_0 (by omega) (by omega) ?_
    refine f_iload (M := mL_law) 1224 dL_law_1222 rfl rfl ?_
    refine f_i2l (M := mL_law) 1225 dL_law_1224 rfl ?_
    refine f_lcmp (M := mL_law) 1226 dL_law_1225 rfl ?_
    refine e_if_eqT (M := mL_law) 1231 dL_law_1226 rfl (lc_eq.mpr (hv z)) ?_
    refine f_goto (M := mL_law) 2888 dL_law_1231 rfl ?_
    refine f_iinc (M := mL_law) (ls' := [_, _, _, _, _, _, _, _]) 2891 dL_law_2888 ki_7 rfl rfl rfl rfl ?_
    refine f_goto (M := mL_law) 23 dL_law_2891 rfl ?_
    rw [show Int32.ofNat (7 * N) + 7 = Int32.ofNat (7 * (N + 1)) from ix_add rfl kn_7]; exact hr
  · refine ⟨I2, L2, R1, some (.int k0), some (.int v), w7, c + 3, k + 18, T2, by omega, by omega, fun r hr => ?_⟩
    refine e_tsI (j := 15) 1166 dL_law_40 rfl (by rw [hx]; decide) (by decide) rfl rfl ?_
    refine f_aload_n (M := mL_law) 1167 dL_law_1166 rfl rfl ?_
    refine f_aload_n (M := mL_law) 1168 dL_law_1167 rfl rfl ?_
    refine f_iload (M := mL_law) 1170 dL_law_1168 rfl rfl ?_
    refine f_iconst (M := mL_law) 1171 dL_law_1170 ki_1 rfl ?_
    refine f_iadd (M := mL_law) 1172 dL_law_1171 rfl ?_
    refine e_iaf (M := mL_law) (w := Lw) (f := xs) (j := (7 * N) + (1)) dL_law_1172 (x_kk rfl) rfl (ix_add rfl kn_1) (by omega) (by omega) ?_
    refine f_aload_n (M := mL_law) 1174 dL_law_1173 rfl rfl ?_
    refine f_iload (M := mL_law) 1176 dL_law_1174 rfl rfl ?_
    refine f_iconst (M := mL_law) 1177 dL_law_1176 ki_2 rfl ?_
    refine f_iadd (M := mL_law) 1178 dL_law_1177 rfl ?_
    refine e_iaf (M := mL_law) (w := Lw) (f := xs) (j := (7 * N) + (2)) dL_law_1178 (x_kk rfl) rfl (ix_add rfl kn_2) (by omega) (by omega) ?_
    refine f_aload_n (M := mL_law) 1180 dL_law_1179 rfl rfl ?_
    refine e_cS (M := mL_law) [_] (c + 3) (k + 18) dL_law_1180 pa_10217 cc_10217 rfl rfl rfl rfl rfl (show c + 3 ≤ 601024 by omega) (show k + 18 ≤ 7293034 by omega) rfl (h1) rfl ?_
    refine f_istore (M := mL_law) (ls' := [_, _, _, _, _, _, _, _]) 1185 dL_law_1183 rfl rfl rfl ?_
    refine f_aload_n (M := mL_law) 1186 dL_law_1185 rfl rfl ?_
    refine f_aload_n (M := mL_law) 1187 dL_law_1186 rfl rfl ?_
    refine f_iload (M := mL_law) 1189 dL_law_1187 rfl rfl ?_
    refine f_iconst (M := mL_law) 1190 dL_law_1189 ki_1 rfl ?_
    refine f_iadd (M := mL_law) 1191 dL_law_1190 rfl ?_
    refine e_iaf (M := mL_law) (w := Lw) (f := xs) (j := (7 * N) + (1)) dL_law_1191 (x_kk rfl) rfl (ix_add rfl kn_1) (by omega) (by omega) ?_
    refine f_aload_n (M := mL_law) 1193 dL_law_1192 rfl rfl ?_
    refine f_iload (M := mL_law) 1195 dL_law_1193 rfl rfl ?_
    refine f_iconst (M := mL_law) 1196 dL_law_1195 ki_2 rfl ?_
    refine f_iadd (M := mL_law) 1197 dL_law_1196 rfl ?_
    refine e_iaf (M := mL_law) (w := Lw) (f := xs) (j := (7 * N) + (2)) dL_law_1197 (x_kk rfl) rfl (ix_add rfl kn_2) (by omega) (by omega) ?_
    refine e_cV (M := mL_law) [_] (c + 3) (k + 18) dL_law_1198 pa_10219 pb_10219 cc_10219 rfl rfl rfl rfl rfl (show c + 3 ≤ 601024 by omega) (show k + 18 ≤ 7293034 by omega) rfl (h2) rfl ?_
    refine f_istore (M := mL_law) (ls' := [_, _, _, _, _, _, _, _]) 1203 dL_law_1201 rfl rfl rfl ?_
    refine f_aload_n (M := mL_law) 1204 dL_law_1203 rfl rfl ?_
    refine e_cV (M := mL_law) [_] (c + 3) (k + 18) dL_law_1204 pa_10163 pb_10163 cc_10163 rfl rfl rfl rfl rfl (show c + 3 ≤ 601024 by omega) (show k + 18 ≤ 7293034 by omega) rfl (c_X9_thrown) rfl ?_
    refine f_iload (M := mL_law) 1209 dL_law_1207 rfl rfl ?_
    refine e_icmp_eqT (M := mL_law) 1214 dL_law_1209 rfl ht ?_
    refine f_iload (M := mL_law) 1216 dL_law_1214 rfl rfl ?_
    refine e_if_neT (M := mL_law) 1231 dL_law_1216 rfl z ?_
    refine f_goto (M := mL_law) 2888 dL_law_1231 rfl ?_
    refine f_iinc (M := mL_law) (ls' := [_, _, _, _, _, _, _, _]) 2891 dL_law_2888 ki_7 rfl rfl rfl rfl ?_
    refine f_goto (M := mL_law) 23 dL_law_2891 rfl ?_
    rw [show Int32.ofNat (7 * N) + 7 = Int32.ofNat (7 * (N + 1)) from ix_add rfl kn_7]; exact hr
theorem law_16 (hlen : 7 * N + 7 ≤ Lw) (hLw : Lw ≤ 3584) (T : y_T N I L R) (hN : N < 512) (hc : c ≤ 233 + 4 * N) (hk : k ≤ 14655 + 24 * N) (hx : xs (7 * N) &&& 63 = Int32.ofNat 16) : y_Nx Lw xs N I L R c k w5 w6 w7 := by
  have sm : y_OI N (Lw, xs) mL_seal [.ref 0, .int (xs (7 * N + 1)), .ref 232] mX9_seal [.ref 225, .int (xs (7 * N + 1))] I L R := sim_seal (X := (Lw, xs)) T (by omega)
  obtain ⟨k0, I1, L1, R1, v, I2, L2, h1, h2, ht, hv, T2⟩ := sm
  by_cases z : k0 = 0
  · refine ⟨I2, L2, R1, some (.int k0), some (.int v), w7, c + 2, k + 12, T2, by omega, by omega, fun r hr => ?_⟩
    refine e_tsI (j := 16) 1234 dL_law_40 rfl (by rw [hx]; decide) (by decide) rfl rfl ?_
    refine f_aload_n (M := mL_law) 1235 dL_law_1234 rfl rfl ?_
    refine f_aload_n (M := mL_law) 1236 dL_law_1235 rfl rfl ?_
    refine f_iload (M := mL_law) 1238 dL_law_1236 rfl rfl ?_
    refine f_iconst (M := mL_law) 1239 dL_law_1238 ki_1 rfl ?_
    refine f_iadd (M := mL_law) 1240 dL_law_1239 rfl ?_
    refine e_iaf (M := mL_law) (w := Lw) (f := xs) (j := (7 * N) + (1)) dL_law_1240 (x_kk rfl) rfl (ix_add rfl kn_1) (by omega) (by omega) ?_
    refine f_aload_n (M := mL_law) 1242 dL_law_1241 rfl rfl ?_
    refine e_cS (M := mL_law) [_] (c + 2) (k + 12) dL_law_1242 pa_10220 cc_10220 rfl rfl rfl rfl rfl (show c + 2 ≤ 601024 by omega) (show k + 12 ≤ 7293034 by omega) rfl (h1) rfl ?_
    refine f_istore (M := mL_law) (ls' := [_, _, _, _, _, _, _, _]) 1247 dL_law_1245 rfl rfl rfl ?_
    refine f_aload_n (M := mL_law) 1248 dL_law_1247 rfl rfl ?_
    refine f_aload_n (M := mL_law) 1249 dL_law_1248 rfl rfl ?_
    refine f_iload (M := mL_law) 1251 dL_law_1249 rfl rfl ?_
    refine f_iconst (M := mL_law) 1252 dL_law_1251 ki_1 rfl ?_
    refine f_iadd (M := mL_law) 1253 dL_law_1252 rfl ?_
    refine e_iaf (M := mL_law) (w := Lw) (f := xs) (j := (7 * N) + (1)) dL_law_1253 (x_kk rfl) rfl (ix_add rfl kn_1) (by omega) (by omega) ?_
    refine e_cV (M := mL_law) [_] (c + 2) (k + 12) dL_law_1254 pa_10222 pb_10222 cc_10222 rfl rfl rfl rfl rfl (show c + 2 ≤ 601024 by omega) (show k + 12 ≤ 7293034 by omega) rfl (h2) rfl ?_
    refine f_istore (M := mL_law) (ls' := [_, _, _, _, _, _, _, _]) 1259 dL_law_1257 rfl rfl rfl ?_
    refine f_aload_n (M := mL_law) 1260 dL_law_1259 rfl rfl ?_
    refine e_cV (M := mL_law) [_] (c + 2) (k + 12) dL_law_1260 pa_10163 pb_10163 cc_10163 rfl rfl rfl rfl rfl (show c + 2 ≤ 601024 by omega) (show k + 12 ≤ 7293034 by omega) rfl (c_X9_thrown) rfl ?_
    refine f_iload (M := mL_law) 1265 dL_law_1263 rfl rfl ?_
    refine e_icmp_eqT (M := mL_law) 1270 dL_law_1265 rfl ht ?_
    refine f_iload (M := mL_law) 1272 dL_law_1270 rfl rfl ?_
    refine e_if_neF (M := mL_law) 1287 dL_law_1272 rfl (fun q => q z) ?_
    refine f_aload_n (M := mL_law) 1276 dL_law_1275 rfl rfl ?_
    refine f_iconst (M := mL_law) 1277 dL_law_1276 ki_0 rfl ?_
    refine e_lld (M := mL_law) (w := 1) (j := 0) dL_law_1277 (x_kk rfl) rfl kn_0 (by omega) (by omega) ?_
    refine f_iload (M := mL_law) 1280 dL_law_1278 rfl rfl ?_
    refine f_i2l (M := mL_law) 1281 dL_law_1280 rfl ?_
    refine f_lcmp (M := mL_law) 1282 dL_law_1281 rfl ?_
    refine e_if_eqT (M := mL_law) 1287 dL_law_1282 rfl (lc_eq.mpr (hv z)) ?_
    refine f_goto (M := mL_law) 2888 dL_law_1287 rfl ?_
    refine f_iinc (M := mL_law) (ls' := [_, _, _, _, _, _, _, _]) 2891 dL_law_2888 ki_7 rfl rfl rfl rfl ?_
    refine f_goto (M := mL_law) 23 dL_law_2891 rfl ?_
    rw [show Int32.ofNat (7 * N) + 7 = Int32.ofNat (7 * (N + 1)) from ix_add rfl kn_7]; exact hr
  · refine ⟨I2, L2, R1, some (.int k0), some (.int v), w7, c + 2, k + 12, T2, by omega, by omega, fun r hr => ?_⟩
    refine e_tsI (j := 16) 1234 dL_law_40 rfl (by rw [hx]; decide) (by decide) rfl rfl ?_
    refine f_aload_n (M := mL_law) 1235 dL_law_1234 rfl rfl ?_
    refine f_aload_n (M := mL_law) 1236 dL_law_1235 rfl rfl ?_
    refine f_iload (M := mL_law) 1238 dL_law_1236 rfl rfl ?_
    refine f_iconst (M := mL_law) 1239 dL_law_1238 ki_1 rfl ?_
    refine f_iadd (M := mL_law) 1240 dL_law_1239 rfl ?_
    refine e_iaf (M := mL_law) (w := Lw) (f := xs) (j := (7 * N) + (1)) dL_law_1240 (x_kk rfl) rfl (ix_add rfl kn_1) (by omega) (by omega) ?_
    refine f_aload_n (M := mL_law) 1242 dL_law_1241 rfl rfl ?_
    refine e_cS (M := mL_law) [_] (c + 2) (k + 12) dL_law_1242 pa_10220 cc_10220 rfl rfl rfl rfl rfl (show c + 2 ≤ 601024 by omega) (show k + 12 ≤ 7293034 by omega) rfl (h1) rfl ?_
    refine f_istore (M := mL_law) (ls' := [_, _, _, _, _, _, _, _]) 1247 dL_law_1245 rfl rfl rfl ?_
    refine f_aload_n (M := mL_law) 1248 dL_law_1247 rfl rfl ?_
    refine f_aload_n (M := mL_law) 1249 dL_law_1248 rfl rfl ?_
    refine f_iload (M := mL_law) 1251 dL_law_1249 rfl rfl ?_
    refine f_iconst (M := mL_law) 1252 dL_law_1251 ki_1 rfl ?_
    refine f_iadd (M := mL_law) 1253 dL_law_1252 rfl ?_
    refine e_iaf (M := mL_law) (w := Lw) (f := xs) (j := (7 * N) + (1)) dL_law_1253 (x_kk rfl) rfl (ix_add rfl kn_1) (by omega) (by omega) ?_
    refine e_cV (M := mL_law) [_] (c + 2) (k + 12) dL_law_1254 pa_10222 pb_10222 cc_10222 rfl rfl rfl rfl rfl (show c + 2 ≤ 601024 by omega) (show k + 12 ≤ 7293034 by omega) rfl (h2) rfl ?_
    refine f_istore (M := mL_law) (ls' := [_, _, _, _, _, _, _, _]) 1259 dL_law_1257 rfl rfl rfl ?_
    refine f_aload_n (M := mL_law) 1260 dL_law_1259 rfl rfl ?_
    refine e_cV (M := mL_law) [_] (c + 2) (k + 12) dL_law_1260 pa_10163 pb_10163 cc_10163 rfl rfl rfl rfl rfl (show c + 2 ≤ 601024 by omega) (show k + 12 ≤ 7293034 by omega) rfl (c_X9_thrown) rfl ?_
    refine f_iload (M := mL_law) 1265 dL_law_1263 rfl rfl ?_
    refine e_icmp_eqT (M := mL_law) 1270 dL_law_1265 rfl ht ?_
    refine f_iload (M := mL_law) 1272 dL_law_1270 rfl rfl ?_
    refine e_if_neT (M := mL_law) 1287 dL_law_1272 rfl z ?_
    refine f_goto (M := mL_law) 2888 dL_law_1287 rfl ?_
    refine f_iinc (M := mL_law) (ls' := [_, _, _, _, _, _, _, _]) 2891 dL_law_2888 ki_7 rfl rfl rfl rfl ?_
    refine f_goto (M := mL_law) 23 dL_law_2891 rfl ?_
    rw [show Int32.ofNat (7 * N) + 7 = Int32.ofNat (7 * (N + 1)) from ix_add rfl kn_7]; exact hr
theorem law_17 (hlen : 7 * N + 7 ≤ Lw) (hLw : Lw ≤ 3584) (T : y_T N I L R) (hN : N < 512) (hc : c ≤ 233 + 4 * N) (hk : k ≤ 14655 + 24 * N) (hx : xs (7 * N) &&& 63 = Int32.ofNat 17) : y_Nx Lw xs N I L R c k w5 w6 w7 := by
  have sm : y_OV N (Lw, xs) mL_withdraw [.ref 0, .int (xs (7 * N + 1))] mX9_withdraw [.ref 225, .int (xs (7 * N + 1))] I L R := sim_withdraw (X := (Lw, xs)) T
  obtain ⟨k0, I1, L1, R1, I2, L2, h1, h2, ht, T2⟩ := sm
  refine ⟨I2, L2, R1, some (.int k0), w6, w7, c + 2, k + 12, T2, by omega, by omega, fun r hr => ?_⟩
  refine e_tsI (j := 17) 1290 dL_law_40 rfl (by rw [hx]; decide) (by decide) rfl rfl ?_
  refine f_aload_n (M := mL_law) 1291 dL_law_1290 rfl rfl ?_
  refine f_aload_n (M := mL_law) 1292 dL_law_1291 rfl rfl ?_
  refine f_iload (M := mL_law) 1294 dL_law_1292 rfl rfl ?_
  refine f_iconst (M := mL_law) 1295 dL_law_1294 ki_1 rfl ?_
  refine f_iadd (M := mL_law) 1296 dL_law_1295 rfl ?_
  refine e_iaf (M := mL_law) (w := Lw) (f := xs) (j := (7 * N) + (1)) dL_law_1296 (x_kk rfl) rfl (ix_add rfl kn_1) (by omega) (by omega) ?_
  refine e_cS (M := mL_law) [_] (c + 2) (k + 12) dL_law_1297 pa_10223 cc_10223 rfl rfl rfl rfl rfl (show c + 2 ≤ 601024 by omega) (show k + 12 ≤ 7293034 by omega) rfl (h1) rfl ?_
  refine f_istore (M := mL_law) (ls' := [_, _, _, _, _, _, _, _]) 1302 dL_law_1300 rfl rfl rfl ?_
  refine f_aload_n (M := mL_law) 1303 dL_law_1302 rfl rfl ?_
  refine f_aload_n (M := mL_law) 1304 dL_law_1303 rfl rfl ?_
  refine f_iload (M := mL_law) 1306 dL_law_1304 rfl rfl ?_
  refine f_iconst (M := mL_law) 1307 dL_law_1306 ki_1 rfl ?_
  refine f_iadd (M := mL_law) 1308 dL_law_1307 rfl ?_
  refine e_iaf (M := mL_law) (w := Lw) (f := xs) (j := (7 * N) + (1)) dL_law_1308 (x_kk rfl) rfl (ix_add rfl kn_1) (by omega) (by omega) ?_
  refine e_cV (M := mL_law) [] (c + 2) (k + 12) dL_law_1309 pa_10226 pb_10226 cc_10226 rfl rfl rfl rfl rfl (show c + 2 ≤ 601024 by omega) (show k + 12 ≤ 7293034 by omega) rfl (h2) rfl ?_
  refine f_aload_n (M := mL_law) 1313 dL_law_1312 rfl rfl ?_
  refine e_cV (M := mL_law) [_] (c + 2) (k + 12) dL_law_1313 pa_10163 pb_10163 cc_10163 rfl rfl rfl rfl rfl (show c + 2 ≤ 601024 by omega) (show k + 12 ≤ 7293034 by omega) rfl (c_X9_thrown) rfl ?_
  refine f_iload (M := mL_law) 1318 dL_law_1316 rfl rfl ?_
  refine e_icmp_eqT (M := mL_law) 1323 dL_law_1318 rfl ht ?_
  refine f_goto (M := mL_law) 2888 dL_law_1323 rfl ?_
  refine f_iinc (M := mL_law) (ls' := [_, _, _, _, _, _, _, _]) 2891 dL_law_2888 ki_7 rfl rfl rfl rfl ?_
  refine f_goto (M := mL_law) 23 dL_law_2891 rfl ?_
  rw [show Int32.ofNat (7 * N) + 7 = Int32.ofNat (7 * (N + 1)) from ix_add rfl kn_7]; exact hr
theorem law_18 (hlen : 7 * N + 7 ≤ Lw) (hLw : Lw ≤ 3584) (T : y_T N I L R) (hN : N < 512) (hc : c ≤ 233 + 4 * N) (hk : k ≤ 14655 + 24 * N) (hx : xs (7 * N) &&& 63 = Int32.ofNat 18) : y_Nx Lw xs N I L R c k w5 w6 w7 := by
  have sm : y_OI N (Lw, xs) mL_open [.ref 0, .ref 232] mX9_open [.ref 225] I L R := sim_open (X := (Lw, xs)) T
  obtain ⟨k0, I1, L1, R1, v, I2, L2, h1, h2, ht, hv, T2⟩ := sm
  by_cases z : k0 = 0
  · refine ⟨I2, L2, R1, some (.int k0), some (.int v), w7, c + 1, k + 6, T2, by omega, by omega, fun r hr => ?_⟩
    refine e_tsI (j := 18) 1326 dL_law_40 rfl (by rw [hx]; decide) (by decide) rfl rfl ?_
    refine f_aload_n (M := mL_law) 1327 dL_law_1326 rfl rfl ?_
    refine f_aload_n (M := mL_law) 1328 dL_law_1327 rfl rfl ?_
    refine e_cS (M := mL_law) [_] (c + 1) (k + 6) dL_law_1328 pa_10227 cc_10227 rfl rfl rfl rfl rfl (show c + 1 ≤ 601024 by omega) (show k + 6 ≤ 7293034 by omega) rfl (h1) rfl ?_
    refine f_istore (M := mL_law) (ls' := [_, _, _, _, _, _, _, _]) 1333 dL_law_1331 rfl rfl rfl ?_
    refine f_aload_n (M := mL_law) 1334 dL_law_1333 rfl rfl ?_
    refine e_cV (M := mL_law) [_] (c + 1) (k + 6) dL_law_1334 pa_10229 pb_10229 cc_10229 rfl rfl rfl rfl rfl (show c + 1 ≤ 601024 by omega) (show k + 6 ≤ 7293034 by omega) rfl (h2) rfl ?_
    refine f_istore (M := mL_law) (ls' := [_, _, _, _, _, _, _, _]) 1339 dL_law_1337 rfl rfl rfl ?_
    refine f_aload_n (M := mL_law) 1340 dL_law_1339 rfl rfl ?_
    refine e_cV (M := mL_law) [_] (c + 1) (k + 6) dL_law_1340 pa_10163 pb_10163 cc_10163 rfl rfl rfl rfl rfl (show c + 1 ≤ 601024 by omega) (show k + 6 ≤ 7293034 by omega) rfl (c_X9_thrown) rfl ?_
    refine f_iload (M := mL_law) 1345 dL_law_1343 rfl rfl ?_
    refine e_icmp_eqT (M := mL_law) 1350 dL_law_1345 rfl ht ?_
    refine f_iload (M := mL_law) 1352 dL_law_1350 rfl rfl ?_
    refine e_if_neF (M := mL_law) 1367 dL_law_1352 rfl (fun q => q z) ?_
    refine f_aload_n (M := mL_law) 1356 dL_law_1355 rfl rfl ?_
    refine f_iconst (M := mL_law) 1357 dL_law_1356 ki_0 rfl ?_
    refine e_lld (M := mL_law) (w := 1) (j := 0) dL_law_1357 (x_kk rfl) rfl kn_0 (by omega) (by omega) ?_
    refine f_iload (M := mL_law) 1360 dL_law_1358 rfl rfl ?_
    refine f_i2l (M := mL_law) 1361 dL_law_1360 rfl ?_
    refine f_lcmp (M := mL_law) 1362 dL_law_1361 rfl ?_
    refine e_if_eqT (M := mL_law) 1367 dL_law_1362 rfl (lc_eq.mpr (hv z)) ?_
    refine f_goto (M := mL_law) 2888 dL_law_1367 rfl ?_
    refine f_iinc (M := mL_law) (ls' := [_, _, _, _, _, _, _, _]) 2891 dL_law_2888 ki_7 rfl rfl rfl rfl ?_
    refine f_goto (M := mL_law) 23 dL_law_2891 rfl ?_
    rw [show Int32.ofNat (7 * N) + 7 = Int32.ofNat (7 * (N + 1)) from ix_add rfl kn_7]; exact hr
  · refine ⟨I2, L2, R1, some (.int k0), some (.int v), w7, c + 1, k + 6, T2, by omega, by omega, fun r hr => ?_⟩
    refine e_tsI (j := 18) 1326 dL_law_40 rfl (by rw [hx]; decide) (by decide) rfl rfl ?_
    refine f_aload_n (M := mL_law) 1327 dL_law_1326 rfl rfl ?_
    refine f_aload_n (M := mL_law) 1328 dL_law_1327 rfl rfl ?_
    refine e_cS (M := mL_law) [_] (c + 1) (k + 6) dL_law_1328 pa_10227 cc_10227 rfl rfl rfl rfl rfl (show c + 1 ≤ 601024 by omega) (show k + 6 ≤ 7293034 by omega) rfl (h1) rfl ?_
    refine f_istore (M := mL_law) (ls' := [_, _, _, _, _, _, _, _]) 1333 dL_law_1331 rfl rfl rfl ?_
    refine f_aload_n (M := mL_law) 1334 dL_law_1333 rfl rfl ?_
    refine e_cV (M := mL_law) [_] (c + 1) (k + 6) dL_law_1334 pa_10229 pb_10229 cc_10229 rfl rfl rfl rfl rfl (show c + 1 ≤ 601024 by omega) (show k + 6 ≤ 7293034 by omega) rfl (h2) rfl ?_
    refine f_istore (M := mL_law) (ls' := [_, _, _, _, _, _, _, _]) 1339 dL_law_1337 rfl rfl rfl ?_
    refine f_aload_n (M := mL_law) 1340 dL_law_1339 rfl rfl ?_
    refine e_cV (M := mL_law) [_] (c + 1) (k + 6) dL_law_1340 pa_10163 pb_10163 cc_10163 rfl rfl rfl rfl rfl (show c + 1 ≤ 601024 by omega) (show k + 6 ≤ 7293034 by omega) rfl (c_X9_thrown) rfl ?_
    refine f_iload (M := mL_law) 1345 dL_law_1343 rfl rfl ?_
    refine e_icmp_eqT (M := mL_law) 1350 dL_law_1345 rfl ht ?_
    refine f_iload (M := mL_law) 1352 dL_law_1350 rfl rfl ?_
    refine e_if_neT (M := mL_law) 1367 dL_law_1352 rfl z ?_
    refine f_goto (M := mL_law) 2888 dL_law_1367 rfl ?_
    refine f_iinc (M := mL_law) (ls' := [_, _, _, _, _, _, _, _]) 2891 dL_law_2888 ki_7 rfl rfl rfl rfl ?_
    refine f_goto (M := mL_law) 23 dL_law_2891 rfl ?_
    rw [show Int32.ofNat (7 * N) + 7 = Int32.ofNat (7 * (N + 1)) from ix_add rfl kn_7]; exact hr
theorem law_19 (hlen : 7 * N + 7 ≤ Lw) (hLw : Lw ≤ 3584) (T : y_T N I L R) (hN : N < 512) (hc : c ≤ 233 + 4 * N) (hk : k ≤ 14655 + 24 * N) (hx : xs (7 * N) &&& 63 = Int32.ofNat 19) : y_Nx Lw xs N I L R c k w5 w6 w7 := by
  have sm : y_OI N (Lw, xs) mL_problem [.ref 0, .int (xs (7 * N + 1)), .ref 232] mX9_problem [.ref 225, .int (xs (7 * N + 1))] I L R := sim_problem (X := (Lw, xs)) T
  obtain ⟨k0, I1, L1, R1, v, I2, L2, h1, h2, ht, hv, T2⟩ := sm
  by_cases z : k0 = 0
  · refine ⟨I2, L2, R1, some (.int k0), some (.int v), w7, c + 2, k + 12, T2, by omega, by omega, fun r hr => ?_⟩
    refine e_tsI (j := 19) 1370 dL_law_40 rfl (by rw [hx]; decide) (by decide) rfl rfl ?_
    refine f_aload_n (M := mL_law) 1371 dL_law_1370 rfl rfl ?_
    refine f_aload_n (M := mL_law) 1372 dL_law_1371 rfl rfl ?_
    refine f_iload (M := mL_law) 1374 dL_law_1372 rfl rfl ?_
    refine f_iconst (M := mL_law) 1375 dL_law_1374 ki_1 rfl ?_
    refine f_iadd (M := mL_law) 1376 dL_law_1375 rfl ?_
    refine e_iaf (M := mL_law) (w := Lw) (f := xs) (j := (7 * N) + (1)) dL_law_1376 (x_kk rfl) rfl (ix_add rfl kn_1) (by omega) (by omega) ?_
    refine f_aload_n (M := mL_law) 1378 dL_law_1377 rfl rfl ?_
    refine e_cS (M := mL_law) [_] (c + 2) (k + 12) dL_law_1378 pa_10230 cc_10230 rfl rfl rfl rfl rfl (show c + 2 ≤ 601024 by omega) (show k + 12 ≤ 7293034 by omega) rfl (h1) rfl ?_
    refine f_istore (M := mL_law) (ls' := [_, _, _, _, _, _, _, _]) 1383 dL_law_1381 rfl rfl rfl ?_
    refine f_aload_n (M := mL_law) 1384 dL_law_1383 rfl rfl ?_
    refine f_aload_n (M := mL_law) 1385 dL_law_1384 rfl rfl ?_
    refine f_iload (M := mL_law) 1387 dL_law_1385 rfl rfl ?_
    refine f_iconst (M := mL_law) 1388 dL_law_1387 ki_1 rfl ?_
    refine f_iadd (M := mL_law) 1389 dL_law_1388 rfl ?_
    refine e_iaf (M := mL_law) (w := Lw) (f := xs) (j := (7 * N) + (1)) dL_law_1389 (x_kk rfl) rfl (ix_add rfl kn_1) (by omega) (by omega) ?_
    refine e_cV (M := mL_law) [_] (c + 2) (k + 12) dL_law_1390 pa_10232 pb_10232 cc_10232 rfl rfl rfl rfl rfl (show c + 2 ≤ 601024 by omega) (show k + 12 ≤ 7293034 by omega) rfl (h2) rfl ?_
    refine f_istore (M := mL_law) (ls' := [_, _, _, _, _, _, _, _]) 1395 dL_law_1393 rfl rfl rfl ?_
    refine f_aload_n (M := mL_law) 1396 dL_law_1395 rfl rfl ?_
    refine e_cV (M := mL_law) [_] (c + 2) (k + 12) dL_law_1396 pa_10163 pb_10163 cc_10163 rfl rfl rfl rfl rfl (show c + 2 ≤ 601024 by omega) (show k + 12 ≤ 7293034 by omega) rfl (c_X9_thrown) rfl ?_
    refine f_iload (M := mL_law) 1401 dL_law_1399 rfl rfl ?_
    refine e_icmp_eqT (M := mL_law) 1406 dL_law_1401 rfl ht ?_
    refine f_iload (M := mL_law) 1408 dL_law_1406 rfl rfl ?_
    refine e_if_neF (M := mL_law) 1423 dL_law_1408 rfl (fun q => q z) ?_
    refine f_aload_n (M := mL_law) 1412 dL_law_1411 rfl rfl ?_
    refine f_iconst (M := mL_law) 1413 dL_law_1412 ki_0 rfl ?_
    refine e_lld (M := mL_law) (w := 1) (j := 0) dL_law_1413 (x_kk rfl) rfl kn_0 (by omega) (by omega) ?_
    refine f_iload (M := mL_law) 1416 dL_law_1414 rfl rfl ?_
    refine f_i2l (M := mL_law) 1417 dL_law_1416 rfl ?_
    refine f_lcmp (M := mL_law) 1418 dL_law_1417 rfl ?_
    refine e_if_eqT (M := mL_law) 1423 dL_law_1418 rfl (lc_eq.mpr (hv z)) ?_
    refine f_goto (M := mL_law) 2888 dL_law_1423 rfl ?_
    refine f_iinc (M := mL_law) (ls' := [_, _, _, _, _, _, _, _]) 2891 dL_law_2888 ki_7 rfl rfl rfl rfl ?_
    refine f_goto (M := mL_law) 23 dL_law_2891 rfl ?_
    rw [show Int32.ofNat (7 * N) + 7 = Int32.ofNat (7 * (N + 1)) from ix_add rfl kn_7]; exact hr
  · refine ⟨I2, L2, R1, some (.int k0), some (.int v), w7, c + 2, k + 12, T2, by omega, by omega, fun r hr => ?_⟩
    refine e_tsI (j := 19) 1370 dL_law_40 rfl (by rw [hx]; decide) (by decide) rfl rfl ?_
    refine f_aload_n (M := mL_law) 1371 dL_law_1370 rfl rfl ?_
    refine f_aload_n (M := mL_law) 1372 dL_law_1371 rfl rfl ?_
    refine f_iload (M := mL_law) 1374 dL_law_1372 rfl rfl ?_
    refine f_iconst (M := mL_law) 1375 dL_law_1374 ki_1 rfl ?_
    refine f_iadd (M := mL_law) 1376 dL_law_1375 rfl ?_
    refine e_iaf (M := mL_law) (w := Lw) (f := xs) (j := (7 * N) + (1)) dL_law_1376 (x_kk rfl) rfl (ix_add rfl kn_1) (by omega) (by omega) ?_
    refine f_aload_n (M := mL_law) 1378 dL_law_1377 rfl rfl ?_
    refine e_cS (M := mL_law) [_] (c + 2) (k + 12) dL_law_1378 pa_10230 cc_10230 rfl rfl rfl rfl rfl (show c + 2 ≤ 601024 by omega) (show k + 12 ≤ 7293034 by omega) rfl (h1) rfl ?_
    refine f_istore (M := mL_law) (ls' := [_, _, _, _, _, _, _, _]) 1383 dL_law_1381 rfl rfl rfl ?_
    refine f_aload_n (M := mL_law) 1384 dL_law_1383 rfl rfl ?_
    refine f_aload_n (M := mL_law) 1385 dL_law_1384 rfl rfl ?_
    refine f_iload (M := mL_law) 1387 dL_law_1385 rfl rfl ?_
    refine f_iconst (M := mL_law) 1388 dL_law_1387 ki_1 rfl ?_
    refine f_iadd (M := mL_law) 1389 dL_law_1388 rfl ?_
    refine e_iaf (M := mL_law) (w := Lw) (f := xs) (j := (7 * N) + (1)) dL_law_1389 (x_kk rfl) rfl (ix_add rfl kn_1) (by omega) (by omega) ?_
    refine e_cV (M := mL_law) [_] (c + 2) (k + 12) dL_law_1390 pa_10232 pb_10232 cc_10232 rfl rfl rfl rfl rfl (show c + 2 ≤ 601024 by omega) (show k + 12 ≤ 7293034 by omega) rfl (h2) rfl ?_
    refine f_istore (M := mL_law) (ls' := [_, _, _, _, _, _, _, _]) 1395 dL_law_1393 rfl rfl rfl ?_
    refine f_aload_n (M := mL_law) 1396 dL_law_1395 rfl rfl ?_
    refine e_cV (M := mL_law) [_] (c + 2) (k + 12) dL_law_1396 pa_10163 pb_10163 cc_10163 rfl rfl rfl rfl rfl (show c + 2 ≤ 601024 by omega) (show k + 12 ≤ 7293034 by omega) rfl (c_X9_thrown) rfl ?_
    refine f_iload (M := mL_law) 1401 dL_law_1399 rfl rfl ?_
    refine e_icmp_eqT (M := mL_law) 1406 dL_law_1401 rfl ht ?_
    refine f_iload (M := mL_law) 1408 dL_law_1406 rfl rfl ?_
    refine e_if_neT (M := mL_law) 1423 dL_law_1408 rfl z ?_
    refine f_goto (M := mL_law) 2888 dL_law_1423 rfl ?_
    refine f_iinc (M := mL_law) (ls' := [_, _, _, _, _, _, _, _]) 2891 dL_law_2888 ki_7 rfl rfl rfl rfl ?_
    refine f_goto (M := mL_law) 23 dL_law_2891 rfl ?_
    rw [show Int32.ofNat (7 * N) + 7 = Int32.ofNat (7 * (N + 1)) from ix_add rfl kn_7]; exact hr
theorem law_20 (hlen : 7 * N + 7 ≤ Lw) (hLw : Lw ≤ 3584) (T : y_T N I L R) (hN : N < 512) (hc : c ≤ 233 + 4 * N) (hk : k ≤ 14655 + 24 * N) (hx : xs (7 * N) &&& 63 = Int32.ofNat 20) : y_Nx Lw xs N I L R c k w5 w6 w7 := by
  have sm : y_OL N (Lw, xs) mL_value [.ref 0, .int (xs (7 * N + 1)), .ref 232] mX9_value [.ref 225, .int (xs (7 * N + 1))] I L R := sim_value (X := (Lw, xs)) T
  obtain ⟨k0, I1, L1, R1, v, I2, L2, h1, h2, ht, hv, T2⟩ := sm
  by_cases z : k0 = 0
  · refine ⟨I2, L2, R1, some (.int k0), some (.long v), none, c + 2, k + 12, T2, by omega, by omega, fun r hr => ?_⟩
    refine e_tsI (j := 20) 1426 dL_law_40 rfl (by rw [hx]; decide) (by decide) rfl rfl ?_
    refine f_aload_n (M := mL_law) 1427 dL_law_1426 rfl rfl ?_
    refine f_aload_n (M := mL_law) 1428 dL_law_1427 rfl rfl ?_
    refine f_iload (M := mL_law) 1430 dL_law_1428 rfl rfl ?_
    refine f_iconst (M := mL_law) 1431 dL_law_1430 ki_1 rfl ?_
    refine f_iadd (M := mL_law) 1432 dL_law_1431 rfl ?_
    refine e_iaf (M := mL_law) (w := Lw) (f := xs) (j := (7 * N) + (1)) dL_law_1432 (x_kk rfl) rfl (ix_add rfl kn_1) (by omega) (by omega) ?_
    refine f_aload_n (M := mL_law) 1434 dL_law_1433 rfl rfl ?_
    refine e_cS (M := mL_law) [_] (c + 2) (k + 12) dL_law_1434 pa_10233 cc_10233 rfl rfl rfl rfl rfl (show c + 2 ≤ 601024 by omega) (show k + 12 ≤ 7293034 by omega) rfl (h1) rfl ?_
    refine f_istore (M := mL_law) (ls' := [_, _, _, _, _, _, _, _]) 1439 dL_law_1437 rfl rfl rfl ?_
    refine f_aload_n (M := mL_law) 1440 dL_law_1439 rfl rfl ?_
    refine f_aload_n (M := mL_law) 1441 dL_law_1440 rfl rfl ?_
    refine f_iload (M := mL_law) 1443 dL_law_1441 rfl rfl ?_
    refine f_iconst (M := mL_law) 1444 dL_law_1443 ki_1 rfl ?_
    refine f_iadd (M := mL_law) 1445 dL_law_1444 rfl ?_
    refine e_iaf (M := mL_law) (w := Lw) (f := xs) (j := (7 * N) + (1)) dL_law_1445 (x_kk rfl) rfl (ix_add rfl kn_1) (by omega) (by omega) ?_
    refine e_cV (M := mL_law) [_] (c + 2) (k + 12) dL_law_1446 pa_10235 pb_10235 cc_10235 rfl rfl rfl rfl rfl (show c + 2 ≤ 601024 by omega) (show k + 12 ≤ 7293034 by omega) rfl (h2) rfl ?_
    refine f_lstore (M := mL_law) (ls' := [_, _, _, _, _, _, _, _]) 1451 dL_law_1449 rfl rfl rfl ?_
    refine f_aload_n (M := mL_law) 1452 dL_law_1451 rfl rfl ?_
    refine e_cV (M := mL_law) [_] (c + 2) (k + 12) dL_law_1452 pa_10163 pb_10163 cc_10163 rfl rfl rfl rfl rfl (show c + 2 ≤ 601024 by omega) (show k + 12 ≤ 7293034 by omega) rfl (c_X9_thrown) rfl ?_
    refine f_iload (M := mL_law) 1457 dL_law_1455 rfl rfl ?_
    refine e_icmp_eqT (M := mL_law) 1462 dL_law_1457 rfl ht ?_
    refine f_iload (M := mL_law) 1464 dL_law_1462 rfl rfl ?_
    refine e_if_neF (M := mL_law) 1478 dL_law_1464 rfl (fun q => q z) ?_
    refine f_aload_n (M := mL_law) 1468 dL_law_1467 rfl rfl ?_
    refine f_iconst (M := mL_law) 1469 dL_law_1468 ki_0 rfl ?_
    refine e_lld (M := mL_law) (w := 1) (j := 0) dL_law_1469 (x_kk rfl) rfl kn_0 (by omega) (by omega) ?_
    refine f_lload (M := mL_law) 1472 dL_law_1470 rfl rfl ?_
    refine f_lcmp (M := mL_law) 1473 dL_law_1472 rfl ?_
    refine e_if_eqT (M := mL_law) 1478 dL_law_1473 rfl (lc_eq.mpr (hv z)) ?_
    refine f_goto (M := mL_law) 2888 dL_law_1478 rfl ?_
    refine f_iinc (M := mL_law) (ls' := [_, _, _, _, _, _, _, _]) 2891 dL_law_2888 ki_7 rfl rfl rfl rfl ?_
    refine f_goto (M := mL_law) 23 dL_law_2891 rfl ?_
    rw [show Int32.ofNat (7 * N) + 7 = Int32.ofNat (7 * (N + 1)) from ix_add rfl kn_7]; exact hr
  · refine ⟨I2, L2, R1, some (.int k0), some (.long v), none, c + 2, k + 12, T2, by omega, by omega, fun r hr => ?_⟩
    refine e_tsI (j := 20) 1426 dL_law_40 rfl (by rw [hx]; decide) (by decide) rfl rfl ?_
    refine f_aload_n (M := mL_law) 1427 dL_law_1426 rfl rfl ?_
    refine f_aload_n (M := mL_law) 1428 dL_law_1427 rfl rfl ?_
    refine f_iload (M := mL_law) 1430 dL_law_1428 rfl rfl ?_
    refine f_iconst (M := mL_law) 1431 dL_law_1430 ki_1 rfl ?_
    refine f_iadd (M := mL_law) 1432 dL_law_1431 rfl ?_
    refine e_iaf (M := mL_law) (w := Lw) (f := xs) (j := (7 * N) + (1)) dL_law_1432 (x_kk rfl) rfl (ix_add rfl kn_1) (by omega) (by omega) ?_
    refine f_aload_n (M := mL_law) 1434 dL_law_1433 rfl rfl ?_
    refine e_cS (M := mL_law) [_] (c + 2) (k + 12) dL_law_1434 pa_10233 cc_10233 rfl rfl rfl rfl rfl (show c + 2 ≤ 601024 by omega) (show k + 12 ≤ 7293034 by omega) rfl (h1) rfl ?_
    refine f_istore (M := mL_law) (ls' := [_, _, _, _, _, _, _, _]) 1439 dL_law_1437 rfl rfl rfl ?_
    refine f_aload_n (M := mL_law) 1440 dL_law_1439 rfl rfl ?_
    refine f_aload_n (M := mL_law) 1441 dL_law_1440 rfl rfl ?_
    refine f_iload (M := mL_law) 1443 dL_law_1441 rfl rfl ?_
    refine f_iconst (M := mL_law) 1444 dL_law_1443 ki_1 rfl ?_
    refine f_iadd (M := mL_law) 1445 dL_law_1444 rfl ?_
    refine e_iaf (M := mL_law) (w := Lw) (f := xs) (j := (7 * N) + (1)) dL_law_1445 (x_kk rfl) rfl (ix_add rfl kn_1) (by omega) (by omega) ?_
    refine e_cV (M := mL_law) [_] (c + 2) (k + 12) dL_law_1446 pa_10235 pb_10235 cc_10235 rfl rfl rfl rfl rfl (show c + 2 ≤ 601024 by omega) (show k + 12 ≤ 7293034 by omega) rfl (h2) rfl ?_
    refine f_lstore (M := mL_law) (ls' := [_, _, _, _, _, _, _, _]) 1451 dL_law_1449 rfl rfl rfl ?_
    refine f_aload_n (M := mL_law) 1452 dL_law_1451 rfl rfl ?_
    refine e_cV (M := mL_law) [_] (c + 2) (k + 12) dL_law_1452 pa_10163 pb_10163 cc_10163 rfl rfl rfl rfl rfl (show c + 2 ≤ 601024 by omega) (show k + 12 ≤ 7293034 by omega) rfl (c_X9_thrown) rfl ?_
    refine f_iload (M := mL_law) 1457 dL_law_1455 rfl rfl ?_
    refine e_icmp_eqT (M := mL_law) 1462 dL_law_1457 rfl ht ?_
    refine f_iload (M := mL_law) 1464 dL_law_1462 rfl rfl ?_
    refine e_if_neT (M := mL_law) 1478 dL_law_1464 rfl z ?_
    refine f_goto (M := mL_law) 2888 dL_law_1478 rfl ?_
    refine f_iinc (M := mL_law) (ls' := [_, _, _, _, _, _, _, _]) 2891 dL_law_2888 ki_7 rfl rfl rfl rfl ?_
    refine f_goto (M := mL_law) 23 dL_law_2891 rfl ?_
    rw [show Int32.ofNat (7 * N) + 7 = Int32.ofNat (7 * (N + 1)) from ix_add rfl kn_7]; exact hr
theorem law_21 (hlen : 7 * N + 7 ≤ Lw) (hLw : Lw ≤ 3584) (T : y_T N I L R) (hN : N < 512) (hc : c ≤ 233 + 4 * N) (hk : k ≤ 14655 + 24 * N) (hx : xs (7 * N) &&& 63 = Int32.ofNat 21) : y_Nx Lw xs N I L R c k w5 w6 w7 := by
  have sm : y_OI N (Lw, xs) mL_rank [.ref 0, .int (xs (7 * N + 1)), .ref 232] mX9_rank [.ref 225, .int (xs (7 * N + 1))] I L R := sim_rank (X := (Lw, xs)) T
  obtain ⟨k0, I1, L1, R1, v, I2, L2, h1, h2, ht, hv, T2⟩ := sm
  by_cases z : k0 = 0
  · refine ⟨I2, L2, R1, some (.int k0), some (.int v), w7, c + 2, k + 12, T2, by omega, by omega, fun r hr => ?_⟩
    refine e_tsI (j := 21) 1481 dL_law_40 rfl (by rw [hx]; decide) (by decide) rfl rfl ?_
    refine f_aload_n (M := mL_law) 1482 dL_law_1481 rfl rfl ?_
    refine f_aload_n (M := mL_law) 1483 dL_law_1482 rfl rfl ?_
    refine f_iload (M := mL_law) 1485 dL_law_1483 rfl rfl ?_
    refine f_iconst (M := mL_law) 1486 dL_law_1485 ki_1 rfl ?_
    refine f_iadd (M := mL_law) 1487 dL_law_1486 rfl ?_
    refine e_iaf (M := mL_law) (w := Lw) (f := xs) (j := (7 * N) + (1)) dL_law_1487 (x_kk rfl) rfl (ix_add rfl kn_1) (by omega) (by omega) ?_
    refine f_aload_n (M := mL_law) 1489 dL_law_1488 rfl rfl ?_
    refine e_cS (M := mL_law) [_] (c + 2) (k + 12) dL_law_1489 pa_10236 cc_10236 rfl rfl rfl rfl rfl (show c + 2 ≤ 601024 by omega) (show k + 12 ≤ 7293034 by omega) rfl (h1) rfl ?_
    refine f_istore (M := mL_law) (ls' := [_, _, _, _, _, _, _, _]) 1494 dL_law_1492 rfl rfl rfl ?_
    refine f_aload_n (M := mL_law) 1495 dL_law_1494 rfl rfl ?_
    refine f_aload_n (M := mL_law) 1496 dL_law_1495 rfl rfl ?_
    refine f_iload (M := mL_law) 1498 dL_law_1496 rfl rfl ?_
    refine f_iconst (M := mL_law) 1499 dL_law_1498 ki_1 rfl ?_
    refine f_iadd (M := mL_law) 1500 dL_law_1499 rfl ?_
    refine e_iaf (M := mL_law) (w := Lw) (f := xs) (j := (7 * N) + (1)) dL_law_1500 (x_kk rfl) rfl (ix_add rfl kn_1) (by omega) (by omega) ?_
    refine e_cV (M := mL_law) [_] (c + 2) (k + 12) dL_law_1501 pa_10238 pb_10238 cc_10238 rfl rfl rfl rfl rfl (show c + 2 ≤ 601024 by omega) (show k + 12 ≤ 7293034 by omega) rfl (h2) rfl ?_
    refine f_istore (M := mL_law) (ls' := [_, _, _, _, _, _, _, _]) 1506 dL_law_1504 rfl rfl rfl ?_
    refine f_aload_n (M := mL_law) 1507 dL_law_1506 rfl rfl ?_
    refine e_cV (M := mL_law) [_] (c + 2) (k + 12) dL_law_1507 pa_10163 pb_10163 cc_10163 rfl rfl rfl rfl rfl (show c + 2 ≤ 601024 by omega) (show k + 12 ≤ 7293034 by omega) rfl (c_X9_thrown) rfl ?_
    refine f_iload (M := mL_law) 1512 dL_law_1510 rfl rfl ?_
    refine e_icmp_eqT (M := mL_law) 1517 dL_law_1512 rfl ht ?_
    refine f_iload (M := mL_law) 1519 dL_law_1517 rfl rfl ?_
    refine e_if_neF (M := mL_law) 1534 dL_law_1519 rfl (fun q => q z) ?_
    refine f_aload_n (M := mL_law) 1523 dL_law_1522 rfl rfl ?_
    refine f_iconst (M := mL_law) 1524 dL_law_1523 ki_0 rfl ?_
    refine e_lld (M := mL_law) (w := 1) (j := 0) dL_law_1524 (x_kk rfl) rfl kn_0 (by omega) (by omega) ?_
    refine f_iload (M := mL_law) 1527 dL_law_1525 rfl rfl ?_
    refine f_i2l (M := mL_law) 1528 dL_law_1527 rfl ?_
    refine f_lcmp (M := mL_law) 1529 dL_law_1528 rfl ?_
    refine e_if_eqT (M := mL_law) 1534 dL_law_1529 rfl (lc_eq.mpr (hv z)) ?_
    refine f_goto (M := mL_law) 2888 dL_law_1534 rfl ?_
    refine f_iinc (M := mL_law) (ls' := [_, _, _, _, _, _, _, _]) 2891 dL_law_2888 ki_7 rfl rfl rfl rfl ?_
    refine f_goto (M := mL_law) 23 dL_law_2891 rfl ?_
    rw [show Int32.ofNat (7 * N) + 7 = Int32.ofNat (7 * (N + 1)) from ix_add rfl kn_7]; exact hr
  · refine ⟨I2, L2, R1, some (.int k0), some (.int v), w7, c + 2, k + 12, T2, by omega, by omega, fun r hr => ?_⟩
    refine e_tsI (j := 21) 1481 dL_law_40 rfl (by rw [hx]; decide) (by decide) rfl rfl ?_
    refine f_aload_n (M := mL_law) 1482 dL_law_1481 rfl rfl ?_
    refine f_aload_n (M := mL_law) 1483 dL_law_1482 rfl rfl ?_
    refine f_iload (M := mL_law) 1485 dL_law_1483 rfl rfl ?_
    refine f_iconst (M := mL_law) 1486 dL_law_1485 ki_1 rfl ?_
    refine f_iadd (M := mL_law) 1487 dL_law_1486 rfl ?_
    refine e_iaf (M := mL_law) (w := Lw) (f := xs) (j := (7 * N) + (1)) dL_law_1487 (x_kk rfl) rfl (ix_add rfl kn_1) (by omega) (by omega) ?_
    refine f_aload_n (M := mL_law) 1489 dL_law_1488 rfl rfl ?_
    refine e_cS (M := mL_law) [_] (c + 2) (k + 12) dL_law_1489 pa_10236 cc_10236 rfl rfl rfl rfl rfl (show c + 2 ≤ 601024 by omega) (show k + 12 ≤ 7293034 by omega) rfl (h1) rfl ?_
    refine f_istore (M := mL_law) (ls' := [_, _, _, _, _, _, _, _]) 1494 dL_law_1492 rfl rfl rfl ?_
    refine f_aload_n (M := mL_law) 1495 dL_law_1494 rfl rfl ?_
    refine f_aload_n (M := mL_law) 1496 dL_law_1495 rfl rfl ?_
    refine f_iload (M := mL_law) 1498 dL_law_1496 rfl rfl ?_
    refine f_iconst (M := mL_law) 1499 dL_law_1498 ki_1 rfl ?_
    refine f_iadd (M := mL_law) 1500 dL_law_1499 rfl ?_
    refine e_iaf (M := mL_law) (w := Lw) (f := xs) (j := (7 * N) + (1)) dL_law_1500 (x_kk rfl) rfl (ix_add rfl kn_1) (by omega) (by omega) ?_
    refine e_cV (M := mL_law) [_] (c + 2) (k + 12) dL_law_1501 pa_10238 pb_10238 cc_10238 rfl rfl rfl rfl rfl (show c + 2 ≤ 601024 by omega) (show k + 12 ≤ 7293034 by omega) rfl (h2) rfl ?_
    refine f_istore (M := mL_law) (ls' := [_, _, _, _, _, _, _, _]) 1506 dL_law_1504 rfl rfl rfl ?_
    refine f_aload_n (M := mL_law) 1507 dL_law_1506 rfl rfl ?_
    refine e_cV (M := mL_law) [_] (c + 2) (k + 12) dL_law_1507 pa_10163 pb_10163 cc_10163 rfl rfl rfl rfl rfl (show c + 2 ≤ 601024 by omega) (show k + 12 ≤ 7293034 by omega) rfl (c_X9_thrown) rfl ?_
    refine f_iload (M := mL_law) 1512 dL_law_1510 rfl rfl ?_
    refine e_icmp_eqT (M := mL_law) 1517 dL_law_1512 rfl ht ?_
    refine f_iload (M := mL_law) 1519 dL_law_1517 rfl rfl ?_
    refine e_if_neT (M := mL_law) 1534 dL_law_1519 rfl z ?_
    refine f_goto (M := mL_law) 2888 dL_law_1534 rfl ?_
    refine f_iinc (M := mL_law) (ls' := [_, _, _, _, _, _, _, _]) 2891 dL_law_2888 ki_7 rfl rfl rfl rfl ?_
    refine f_goto (M := mL_law) 23 dL_law_2891 rfl ?_
    rw [show Int32.ofNat (7 * N) + 7 = Int32.ofNat (7 * (N + 1)) from ix_add rfl kn_7]; exact hr
theorem law_22 (hlen : 7 * N + 7 ≤ Lw) (hLw : Lw ≤ 3584) (T : y_T N I L R) (hN : N < 512) (hc : c ≤ 233 + 4 * N) (hk : k ≤ 14655 + 24 * N) (hx : xs (7 * N) &&& 63 = Int32.ofNat 22) : y_Nx Lw xs N I L R c k w5 w6 w7 := by
  have sm : y_OI N (Lw, xs) mL_turningPoint [.ref 0, .int (xs (7 * N + 1)), .ref 232] mX9_turningPoint [.ref 225, .int (xs (7 * N + 1))] I L R := sim_turningPoint (X := (Lw, xs)) T
  obtain ⟨k0, I1, L1, R1, v, I2, L2, h1, h2, ht, hv, T2⟩ := sm
  by_cases z : k0 = 0
  · refine ⟨I2, L2, R1, some (.int k0), some (.int v), w7, c + 4, k + 24, T2, by omega, by omega, fun r hr => ?_⟩
    refine e_tsI (j := 22) 1537 dL_law_40 rfl (by rw [hx]; decide) (by decide) rfl rfl ?_
    refine f_aload_n (M := mL_law) 1538 dL_law_1537 rfl rfl ?_
    refine f_aload_n (M := mL_law) 1539 dL_law_1538 rfl rfl ?_
    refine f_iload (M := mL_law) 1541 dL_law_1539 rfl rfl ?_
    refine f_iconst (M := mL_law) 1542 dL_law_1541 ki_1 rfl ?_
    refine f_iadd (M := mL_law) 1543 dL_law_1542 rfl ?_
    refine e_iaf (M := mL_law) (w := Lw) (f := xs) (j := (7 * N) + (1)) dL_law_1543 (x_kk rfl) rfl (ix_add rfl kn_1) (by omega) (by omega) ?_
    refine f_aload_n (M := mL_law) 1545 dL_law_1544 rfl rfl ?_
    refine e_cS (M := mL_law) [_] (c + 4) (k + 24) dL_law_1545 pa_10239 cc_10239 rfl rfl rfl rfl rfl (show c + 4 ≤ 601024 by omega) (show k + 24 ≤ 7293034 by omega) rfl (h1) rfl ?_
    refine f_istore (M := mL_law) (ls' := [_, _, _, _, _, _, _, _]) 1550 dL_law_1548 rfl rfl rfl ?_
    refine f_aload_n (M := mL_law) 1551 dL_law_1550 rfl rfl ?_
    refine f_aload_n (M := mL_law) 1552 dL_law_1551 rfl rfl ?_
    refine f_iload (M := mL_law) 1554 dL_law_1552 rfl rfl ?_
    refine f_iconst (M := mL_law) 1555 dL_law_1554 ki_1 rfl ?_
    refine f_iadd (M := mL_law) 1556 dL_law_1555 rfl ?_
    refine e_iaf (M := mL_law) (w := Lw) (f := xs) (j := (7 * N) + (1)) dL_law_1556 (x_kk rfl) rfl (ix_add rfl kn_1) (by omega) (by omega) ?_
    refine e_cV (M := mL_law) [_] (c + 4) (k + 24) dL_law_1557 pa_10241 pb_10241 cc_10241 rfl rfl rfl rfl rfl (show c + 4 ≤ 601024 by omega) (show k + 24 ≤ 7293034 by omega) rfl (h2) rfl ?_
    refine f_istore (M := mL_law) (ls' := [_, _, _, _, _, _, _, _]) 1562 dL_law_1560 rfl rfl rfl ?_
    refine f_aload_n (M := mL_law) 1563 dL_law_1562 rfl rfl ?_
    refine e_cV (M := mL_law) [_] (c + 4) (k + 24) dL_law_1563 pa_10163 pb_10163 cc_10163 rfl rfl rfl rfl rfl (show c + 4 ≤ 601024 by omega) (show k + 24 ≤ 7293034 by omega) rfl (c_X9_thrown) rfl ?_
    refine f_iload (M := mL_law) 1568 dL_law_1566 rfl rfl ?_
    refine e_icmp_eqT (M := mL_law) 1573 dL_law_1568 rfl ht ?_
    refine f_iload (M := mL_law) 1575 dL_law_1573 rfl rfl ?_
    refine e_if_neF (M := mL_law) 1590 dL_law_1575 rfl (fun q => q z) ?_
    refine f_aload_n (M := mL_law) 1579 dL_law_1578 rfl rfl ?_
    refine f_iconst (M := mL_law) 1580 dL_law_1579 ki_0 rfl ?_
    refine e_lld (M := mL_law) (w := 1) (j := 0) dL_law_1580 (x_kk rfl) rfl kn_0 (by omega) (by omega) ?_
    refine f_iload (M := mL_law) 1583 dL_law_1581 rfl rfl ?_
    refine f_i2l (M := mL_law) 1584 dL_law_1583 rfl ?_
    refine f_lcmp (M := mL_law) 1585 dL_law_1584 rfl ?_
    refine e_if_eqT (M := mL_law) 1590 dL_law_1585 rfl (lc_eq.mpr (hv z)) ?_
    refine f_goto (M := mL_law) 2888 dL_law_1590 rfl ?_
    refine f_iinc (M := mL_law) (ls' := [_, _, _, _, _, _, _, _]) 2891 dL_law_2888 ki_7 rfl rfl rfl rfl ?_
    refine f_goto (M := mL_law) 23 dL_law_2891 rfl ?_
    rw [show Int32.ofNat (7 * N) + 7 = Int32.ofNat (7 * (N + 1)) from ix_add rfl kn_7]; exact hr
  · refine ⟨I2, L2, R1, some (.int k0), some (.int v), w7, c + 4, k + 24, T2, by omega, by omega, fun r hr => ?_⟩
    refine e_tsI (j := 22) 1537 dL_law_40 rfl (by rw [hx]; decide) (by decide) rfl rfl ?_
    refine f_aload_n (M := mL_law) 1538 dL_law_1537 rfl rfl ?_
    refine f_aload_n (M := mL_law) 1539 dL_law_1538 rfl rfl ?_
    refine f_iload (M := mL_law) 1541 dL_law_1539 rfl rfl ?_
    refine f_iconst (M := mL_law) 1542 dL_law_1541 ki_1 rfl ?_
    refine f_iadd (M := mL_law) 1543 dL_law_1542 rfl ?_
    refine e_iaf (M := mL_law) (w := Lw) (f := xs) (j := (7 * N) + (1)) dL_law_1543 (x_kk rfl) rfl (ix_add rfl kn_1) (by omega) (by omega) ?_
    refine f_aload_n (M := mL_law) 1545 dL_law_1544 rfl rfl ?_
    refine e_cS (M := mL_law) [_] (c + 4) (k + 24) dL_law_1545 pa_10239 cc_10239 rfl rfl rfl rfl rfl (show c + 4 ≤ 601024 by omega) (show k + 24 ≤ 7293034 by omega) rfl (h1) rfl ?_
    refine f_istore (M := mL_law) (ls' := [_, _, _, _, _, _, _, _]) 1550 dL_law_1548 rfl rfl rfl ?_
    refine f_aload_n (M := mL_law) 1551 dL_law_1550 rfl rfl ?_
    refine f_aload_n (M := mL_law) 1552 dL_law_1551 rfl rfl ?_
    refine f_iload (M := mL_law) 1554 dL_law_1552 rfl rfl ?_
    refine f_iconst (M := mL_law) 1555 dL_law_1554 ki_1 rfl ?_
    refine f_iadd (M := mL_law) 1556 dL_law_1555 rfl ?_
    refine e_iaf (M := mL_law) (w := Lw) (f := xs) (j := (7 * N) + (1)) dL_law_1556 (x_kk rfl) rfl (ix_add rfl kn_1) (by omega) (by omega) ?_
    refine e_cV (M := mL_law) [_] (c + 4) (k + 24) dL_law_1557 pa_10241 pb_10241 cc_10241 rfl rfl rfl rfl rfl (show c + 4 ≤ 601024 by omega) (show k + 24 ≤ 7293034 by omega) rfl (h2) rfl ?_
    refine f_istore (M := mL_law) (ls' := [_, _, _, _, _, _, _, _]) 1562 dL_law_1560 rfl rfl rfl ?_
    refine f_aload_n (M := mL_law) 1563 dL_law_1562 rfl rfl ?_
    refine e_cV (M := mL_law) [_] (c + 4) (k + 24) dL_law_1563 pa_10163 pb_10163 cc_10163 rfl rfl rfl rfl rfl (show c + 4 ≤ 601024 by omega) (show k + 24 ≤ 7293034 by omega) rfl (c_X9_thrown) rfl ?_
    refine f_iload (M := mL_law) 1568 dL_law_1566 rfl rfl ?_
    refine e_icmp_eqT (M := mL_law) 1573 dL_law_1568 rfl ht ?_
    refine f_iload (M := mL_law) 1575 dL_law_1573 rfl rfl ?_
    refine e_if_neT (M := mL_law) 1590 dL_law_1575 rfl z ?_
    refine f_goto (M := mL_law) 2888 dL_law_1590 rfl ?_
    refine f_iinc (M := mL_law) (ls' := [_, _, _, _, _, _, _, _]) 2891 dL_law_2888 ki_7 rfl rfl rfl rfl ?_
    refine f_goto (M := mL_law) 23 dL_law_2891 rfl ?_
    rw [show Int32.ofNat (7 * N) + 7 = Int32.ofNat (7 * (N + 1)) from ix_add rfl kn_7]; exact hr
theorem law_23 (hlen : 7 * N + 7 ≤ Lw) (hLw : Lw ≤ 3584) (T : y_T N I L R) (hN : N < 512) (hc : c ≤ 233 + 4 * N) (hk : k ≤ 14655 + 24 * N) (hx : xs (7 * N) &&& 63 = Int32.ofNat 23) : y_Nx Lw xs N I L R c k w5 w6 w7 := by
  have sm : y_OI N (Lw, xs) mL_leastWinningRate [.ref 0, .int (xs (7 * N + 1)), .int (xs (7 * N + 2)), .ref 232] mX9_leastWinningRate [.ref 225, .int (xs (7 * N + 1)), .int (xs (7 * N + 2))] I L R := sim_leastWinningRate (X := (Lw, xs)) T
  obtain ⟨k0, I1, L1, R1, v, I2, L2, h1, h2, ht, hv, T2⟩ := sm
  by_cases z : k0 = 0
  · refine ⟨I2, L2, R1, some (.int k0), some (.int v), w7, c + 3, k + 18, T2, by omega, by omega, fun r hr => ?_⟩
    refine e_tsI (j := 23) 1593 dL_law_40 rfl (by rw [hx]; decide) (by decide) rfl rfl ?_
    refine f_aload_n (M := mL_law) 1594 dL_law_1593 rfl rfl ?_
    refine f_aload_n (M := mL_law) 1595 dL_law_1594 rfl rfl ?_
    refine f_iload (M := mL_law) 1597 dL_law_1595 rfl rfl ?_
    refine f_iconst (M := mL_law) 1598 dL_law_1597 ki_1 rfl ?_
    refine f_iadd (M := mL_law) 1599 dL_law_1598 rfl ?_
    refine e_iaf (M := mL_law) (w := Lw) (f := xs) (j := (7 * N) + (1)) dL_law_1599 (x_kk rfl) rfl (ix_add rfl kn_1) (by omega) (by omega) ?_
    refine f_aload_n (M := mL_law) 1601 dL_law_1600 rfl rfl ?_
    refine f_iload (M := mL_law) 1603 dL_law_1601 rfl rfl ?_
    refine f_iconst (M := mL_law) 1604 dL_law_1603 ki_2 rfl ?_
    refine f_iadd (M := mL_law) 1605 dL_law_1604 rfl ?_
    refine e_iaf (M := mL_law) (w := Lw) (f := xs) (j := (7 * N) + (2)) dL_law_1605 (x_kk rfl) rfl (ix_add rfl kn_2) (by omega) (by omega) ?_
    refine f_aload_n (M := mL_law) 1607 dL_law_1606 rfl rfl ?_
    refine e_cS (M := mL_law) [_] (c + 3) (k + 18) dL_law_1607 pa_10242 cc_10242 rfl rfl rfl rfl rfl (show c + 3 ≤ 601024 by omega) (show k + 18 ≤ 7293034 by omega) rfl (h1) rfl ?_
    refine f_istore (M := mL_law) (ls' := [_, _, _, _, _, _, _, _]) 1612 dL_law_1610 rfl rfl rfl ?_
    refine f_aload_n (M := mL_law) 1613 dL_law_1612 rfl rfl ?_
    refine f_aload_n (M := mL_law) 1614 dL_law_1613 rfl rfl ?_
    refine f_iload (M := mL_law) 1616 dL_law_1614 rfl rfl ?_
    refine f_iconst (M := mL_law) 1617 dL_law_1616 ki_1 rfl ?_
    refine f_iadd (M := mL_law) 1618 dL_law_1617 rfl ?_
    refine e_iaf (M := mL_law) (w := Lw) (f := xs) (j := (7 * N) + (1)) dL_law_1618 (x_kk rfl) rfl (ix_add rfl kn_1) (by omega) (by omega) ?_
    refine f_aload_n (M := mL_law) 1620 dL_law_1619 rfl rfl ?_
    refine f_iload (M := mL_law) 1622 dL_law_1620 rfl rfl ?_
    refine f_iconst (M := mL_law) 1623 dL_law_1622 ki_2 rfl ?_
    refine f_iadd (M := mL_law) 1624 dL_law_1623 rfl ?_
    refine e_iaf (M := mL_law) (w := Lw) (f := xs) (j := (7 * N) + (2)) dL_law_1624 (x_kk rfl) rfl (ix_add rfl kn_2) (by omega) (by omega) ?_
    refine e_cV (M := mL_law) [_] (c + 3) (k + 18) dL_law_1625 pa_10244 pb_10244 cc_10244 rfl rfl rfl rfl rfl (show c + 3 ≤ 601024 by omega) (show k + 18 ≤ 7293034 by omega) rfl (h2) rfl ?_
    refine f_istore (M := mL_law) (ls' := [_, _, _, _, _, _, _, _]) 1630 dL_law_1628 rfl rfl rfl ?_
    refine f_aload_n (M := mL_law) 1631 dL_law_1630 rfl rfl ?_
    refine e_cV (M := mL_law) [_] (c + 3) (k + 18) dL_law_1631 pa_10163 pb_10163 cc_10163 rfl rfl rfl rfl rfl (show c + 3 ≤ 601024 by omega) (show k + 18 ≤ 7293034 by omega) rfl (c_X9_thrown) rfl ?_
    refine f_iload (M := mL_law) 1636 dL_law_1634 rfl rfl ?_
    refine e_icmp_eqT (M := mL_law) 1641 dL_law_1636 rfl ht ?_
    refine f_iload (M := mL_law) 1643 dL_law_1641 rfl rfl ?_
    refine e_if_neF (M := mL_law) 1658 dL_law_1643 rfl (fun q => q z) ?_
    refine f_aload_n (M := mL_law) 1647 dL_law_1646 rfl rfl ?_
    refine f_iconst (M := mL_law) 1648 dL_law_1647 ki_0 rfl ?_
    refine e_lld (M := mL_law) (w := 1) (j := 0) dL_law_1648 (x_kk rfl) rfl kn_0 (by omega) (by omega) ?_
    refine f_iload (M := mL_law) 1651 dL_law_1649 rfl rfl ?_
    refine f_i2l (M := mL_law) 1652 dL_law_1651 rfl ?_
    refine f_lcmp (M := mL_law) 1653 dL_law_1652 rfl ?_
    refine e_if_eqT (M := mL_law) 1658 dL_law_1653 rfl (lc_eq.mpr (hv z)) ?_
    refine f_goto (M := mL_law) 2888 dL_law_1658 rfl ?_
    refine f_iinc (M := mL_law) (ls' := [_, _, _, _, _, _, _, _]) 2891 dL_law_2888 ki_7 rfl rfl rfl rfl ?_
    refine f_goto (M := mL_law) 23 dL_law_2891 rfl ?_
    rw [show Int32.ofNat (7 * N) + 7 = Int32.ofNat (7 * (N + 1)) from ix_add rfl kn_7]; exact hr
  · refine ⟨I2, L2, R1, some (.int k0), some (.int v), w7, c + 3, k + 18, T2, by omega, by omega, fun r hr => ?_⟩
    refine e_tsI (j := 23) 1593 dL_law_40 rfl (by rw [hx]; decide) (by decide) rfl rfl ?_
    refine f_aload_n (M := mL_law) 1594 dL_law_1593 rfl rfl ?_
    refine f_aload_n (M := mL_law) 1595 dL_law_1594 rfl rfl ?_
    refine f_iload (M := mL_law) 1597 dL_law_1595 rfl rfl ?_
    refine f_iconst (M := mL_law) 1598 dL_law_1597 ki_1 rfl ?_
    refine f_iadd (M := mL_law) 1599 dL_law_1598 rfl ?_
    refine e_iaf (M := mL_law) (w := Lw) (f := xs) (j := (7 * N) + (1)) dL_law_1599 (x_kk rfl) rfl (ix_add rfl kn_1) (by omega) (by omega) ?_
    refine f_aload_n (M := mL_law) 1601 dL_law_1600 rfl rfl ?_
    refine f_iload (M := mL_law) 1603 dL_law_1601 rfl rfl ?_
    refine f_iconst (M := mL_law) 1604 dL_law_1603 ki_2 rfl ?_
    refine f_iadd (M := mL_law) 1605 dL_law_1604 rfl ?_
    refine e_iaf (M := mL_law) (w := Lw) (f := xs) (j := (7 * N) + (2)) dL_law_1605 (x_kk rfl) rfl (ix_add rfl kn_2) (by omega) (by omega) ?_
    refine f_aload_n (M := mL_law) 1607 dL_law_1606 rfl rfl ?_
    refine e_cS (M := mL_law) [_] (c + 3) (k + 18) dL_law_1607 pa_10242 cc_10242 rfl rfl rfl rfl rfl (show c + 3 ≤ 601024 by omega) (show k + 18 ≤ 7293034 by omega) rfl (h1) rfl ?_
    refine f_istore (M := mL_law) (ls' := [_, _, _, _, _, _, _, _]) 1612 dL_law_1610 rfl rfl rfl ?_
    refine f_aload_n (M := mL_law) 1613 dL_law_1612 rfl rfl ?_
    refine f_aload_n (M := mL_law) 1614 dL_law_1613 rfl rfl ?_
    refine f_iload (M := mL_law) 1616 dL_law_1614 rfl rfl ?_
    refine f_iconst (M := mL_law) 1617 dL_law_1616 ki_1 rfl ?_
    refine f_iadd (M := mL_law) 1618 dL_law_1617 rfl ?_
    refine e_iaf (M := mL_law) (w := Lw) (f := xs) (j := (7 * N) + (1)) dL_law_1618 (x_kk rfl) rfl (ix_add rfl kn_1) (by omega) (by omega) ?_
    refine f_aload_n (M := mL_law) 1620 dL_law_1619 rfl rfl ?_
    refine f_iload (M := mL_law) 1622 dL_law_1620 rfl rfl ?_
    refine f_iconst (M := mL_law) 1623 dL_law_1622 ki_2 rfl ?_
    refine f_iadd (M := mL_law) 1624 dL_law_1623 rfl ?_
    refine e_iaf (M := mL_law) (w := Lw) (f := xs) (j := (7 * N) + (2)) dL_law_1624 (x_kk rfl) rfl (ix_add rfl kn_2) (by omega) (by omega) ?_
    refine e_cV (M := mL_law) [_] (c + 3) (k + 18) dL_law_1625 pa_10244 pb_10244 cc_10244 rfl rfl rfl rfl rfl (show c + 3 ≤ 601024 by omega) (show k + 18 ≤ 7293034 by omega) rfl (h2) rfl ?_
    refine f_istore (M := mL_law) (ls' := [_, _, _, _, _, _, _, _]) 1630 dL_law_1628 rfl rfl rfl ?_
    refine f_aload_n (M := mL_law) 1631 dL_law_1630 rfl rfl ?_
    refine e_cV (M := mL_law) [_] (c + 3) (k + 18) dL_law_1631 pa_10163 pb_10163 cc_10163 rfl rfl rfl rfl rfl (show c + 3 ≤ 601024 by omega) (show k + 18 ≤ 7293034 by omega) rfl (c_X9_thrown) rfl ?_
    refine f_iload (M := mL_law) 1636 dL_law_1634 rfl rfl ?_
    refine e_icmp_eqT (M := mL_law) 1641 dL_law_1636 rfl ht ?_
    refine f_iload (M := mL_law) 1643 dL_law_1641 rfl rfl ?_
    refine e_if_neT (M := mL_law) 1658 dL_law_1643 rfl z ?_
    refine f_goto (M := mL_law) 2888 dL_law_1658 rfl ?_
    refine f_iinc (M := mL_law) (ls' := [_, _, _, _, _, _, _, _]) 2891 dL_law_2888 ki_7 rfl rfl rfl rfl ?_
    refine f_goto (M := mL_law) 23 dL_law_2891 rfl ?_
    rw [show Int32.ofNat (7 * N) + 7 = Int32.ofNat (7 * (N + 1)) from ix_add rfl kn_7]; exact hr
theorem law_24 (hlen : 7 * N + 7 ≤ Lw) (hLw : Lw ≤ 3584) (T : y_T N I L R) (hN : N < 512) (hc : c ≤ 233 + 4 * N) (hk : k ≤ 14655 + 24 * N) (hx : xs (7 * N) &&& 63 = Int32.ofNat 24) : y_Nx Lw xs N I L R c k w5 w6 w7 := by
  have sm : y_OI N (Lw, xs) mL_award [.ref 0, .ref 232] mX9_award [.ref 225] I L R := sim_award (X := (Lw, xs)) T
  obtain ⟨k0, I1, L1, R1, v, I2, L2, h1, h2, ht, hv, T2⟩ := sm
  by_cases z : k0 = 0
  · refine ⟨I2, L2, R1, some (.int k0), some (.int v), w7, c + 2, k + 12, T2, by omega, by omega, fun r hr => ?_⟩
    refine e_tsI (j := 24) 1661 dL_law_40 rfl (by rw [hx]; decide) (by decide) rfl rfl ?_
    refine f_aload_n (M := mL_law) 1662 dL_law_1661 rfl rfl ?_
    refine f_aload_n (M := mL_law) 1663 dL_law_1662 rfl rfl ?_
    refine e_cS (M := mL_law) [_] (c + 2) (k + 12) dL_law_1663 pa_10245 cc_10245 rfl rfl rfl rfl rfl (show c + 2 ≤ 601024 by omega) (show k + 12 ≤ 7293034 by omega) rfl (h1) rfl ?_
    refine f_istore (M := mL_law) (ls' := [_, _, _, _, _, _, _, _]) 1668 dL_law_1666 rfl rfl rfl ?_
    refine f_aload_n (M := mL_law) 1669 dL_law_1668 rfl rfl ?_
    refine e_cV (M := mL_law) [_] (c + 2) (k + 12) dL_law_1669 pa_10247 pb_10247 cc_10247 rfl rfl rfl rfl rfl (show c + 2 ≤ 601024 by omega) (show k + 12 ≤ 7293034 by omega) rfl (h2) rfl ?_
    refine f_istore (M := mL_law) (ls' := [_, _, _, _, _, _, _, _]) 1674 dL_law_1672 rfl rfl rfl ?_
    refine f_aload_n (M := mL_law) 1675 dL_law_1674 rfl rfl ?_
    refine e_cV (M := mL_law) [_] (c + 2) (k + 12) dL_law_1675 pa_10163 pb_10163 cc_10163 rfl rfl rfl rfl rfl (show c + 2 ≤ 601024 by omega) (show k + 12 ≤ 7293034 by omega) rfl (c_X9_thrown) rfl ?_
    refine f_iload (M := mL_law) 1680 dL_law_1678 rfl rfl ?_
    refine e_icmp_eqT (M := mL_law) 1685 dL_law_1680 rfl ht ?_
    refine f_iload (M := mL_law) 1687 dL_law_1685 rfl rfl ?_
    refine e_if_neF (M := mL_law) 1702 dL_law_1687 rfl (fun q => q z) ?_
    refine f_aload_n (M := mL_law) 1691 dL_law_1690 rfl rfl ?_
    refine f_iconst (M := mL_law) 1692 dL_law_1691 ki_0 rfl ?_
    refine e_lld (M := mL_law) (w := 1) (j := 0) dL_law_1692 (x_kk rfl) rfl kn_0 (by omega) (by omega) ?_
    refine f_iload (M := mL_law) 1695 dL_law_1693 rfl rfl ?_
    refine f_i2l (M := mL_law) 1696 dL_law_1695 rfl ?_
    refine f_lcmp (M := mL_law) 1697 dL_law_1696 rfl ?_
    refine e_if_eqT (M := mL_law) 1702 dL_law_1697 rfl (lc_eq.mpr (hv z)) ?_
    refine f_goto (M := mL_law) 2888 dL_law_1702 rfl ?_
    refine f_iinc (M := mL_law) (ls' := [_, _, _, _, _, _, _, _]) 2891 dL_law_2888 ki_7 rfl rfl rfl rfl ?_
    refine f_goto (M := mL_law) 23 dL_law_2891 rfl ?_
    rw [show Int32.ofNat (7 * N) + 7 = Int32.ofNat (7 * (N + 1)) from ix_add rfl kn_7]; exact hr
  · refine ⟨I2, L2, R1, some (.int k0), some (.int v), w7, c + 2, k + 12, T2, by omega, by omega, fun r hr => ?_⟩
    refine e_tsI (j := 24) 1661 dL_law_40 rfl (by rw [hx]; decide) (by decide) rfl rfl ?_
    refine f_aload_n (M := mL_law) 1662 dL_law_1661 rfl rfl ?_
    refine f_aload_n (M := mL_law) 1663 dL_law_1662 rfl rfl ?_
    refine e_cS (M := mL_law) [_] (c + 2) (k + 12) dL_law_1663 pa_10245 cc_10245 rfl rfl rfl rfl rfl (show c + 2 ≤ 601024 by omega) (show k + 12 ≤ 7293034 by omega) rfl (h1) rfl ?_
    refine f_istore (M := mL_law) (ls' := [_, _, _, _, _, _, _, _]) 1668 dL_law_1666 rfl rfl rfl ?_
    refine f_aload_n (M := mL_law) 1669 dL_law_1668 rfl rfl ?_
    refine e_cV (M := mL_law) [_] (c + 2) (k + 12) dL_law_1669 pa_10247 pb_10247 cc_10247 rfl rfl rfl rfl rfl (show c + 2 ≤ 601024 by omega) (show k + 12 ≤ 7293034 by omega) rfl (h2) rfl ?_
    refine f_istore (M := mL_law) (ls' := [_, _, _, _, _, _, _, _]) 1674 dL_law_1672 rfl rfl rfl ?_
    refine f_aload_n (M := mL_law) 1675 dL_law_1674 rfl rfl ?_
    refine e_cV (M := mL_law) [_] (c + 2) (k + 12) dL_law_1675 pa_10163 pb_10163 cc_10163 rfl rfl rfl rfl rfl (show c + 2 ≤ 601024 by omega) (show k + 12 ≤ 7293034 by omega) rfl (c_X9_thrown) rfl ?_
    refine f_iload (M := mL_law) 1680 dL_law_1678 rfl rfl ?_
    refine e_icmp_eqT (M := mL_law) 1685 dL_law_1680 rfl ht ?_
    refine f_iload (M := mL_law) 1687 dL_law_1685 rfl rfl ?_
    refine e_if_neT (M := mL_law) 1702 dL_law_1687 rfl z ?_
    refine f_goto (M := mL_law) 2888 dL_law_1702 rfl ?_
    refine f_iinc (M := mL_law) (ls' := [_, _, _, _, _, _, _, _]) 2891 dL_law_2888 ki_7 rfl rfl rfl rfl ?_
    refine f_goto (M := mL_law) 23 dL_law_2891 rfl ?_
    rw [show Int32.ofNat (7 * N) + 7 = Int32.ofNat (7 * (N + 1)) from ix_add rfl kn_7]; exact hr
theorem law_25 (hlen : 7 * N + 7 ≤ Lw) (hLw : Lw ≤ 3584) (T : y_T N I L R) (hN : N < 512) (hc : c ≤ 233 + 4 * N) (hk : k ≤ 14655 + 24 * N) (hx : xs (7 * N) &&& 63 = Int32.ofNat 25) : y_Nx Lw xs N I L R c k w5 w6 w7 := by
  have sm : y_OV N (Lw, xs) mL_setIndex [.ref 0, .int (xs (7 * N + 1)), .int (xs (7 * N + 2)), .int (xs (7 * N + 3))] mX9_setIndex [.ref 225, .int (xs (7 * N + 1)), .int (xs (7 * N + 2)), .int (xs (7 * N + 3))] I L R := sim_setIndex (X := (Lw, xs)) T
  obtain ⟨k0, I1, L1, R1, I2, L2, h1, h2, ht, T2⟩ := sm
  refine ⟨I2, L2, R1, some (.int k0), w6, w7, c + 3, k + 18, T2, by omega, by omega, fun r hr => ?_⟩
  refine e_tsI (j := 25) 1705 dL_law_40 rfl (by rw [hx]; decide) (by decide) rfl rfl ?_
  refine f_aload_n (M := mL_law) 1706 dL_law_1705 rfl rfl ?_
  refine f_aload_n (M := mL_law) 1707 dL_law_1706 rfl rfl ?_
  refine f_iload (M := mL_law) 1709 dL_law_1707 rfl rfl ?_
  refine f_iconst (M := mL_law) 1710 dL_law_1709 ki_1 rfl ?_
  refine f_iadd (M := mL_law) 1711 dL_law_1710 rfl ?_
  refine e_iaf (M := mL_law) (w := Lw) (f := xs) (j := (7 * N) + (1)) dL_law_1711 (x_kk rfl) rfl (ix_add rfl kn_1) (by omega) (by omega) ?_
  refine f_aload_n (M := mL_law) 1713 dL_law_1712 rfl rfl ?_
  refine f_iload (M := mL_law) 1715 dL_law_1713 rfl rfl ?_
  refine f_iconst (M := mL_law) 1716 dL_law_1715 ki_2 rfl ?_
  refine f_iadd (M := mL_law) 1717 dL_law_1716 rfl ?_
  refine e_iaf (M := mL_law) (w := Lw) (f := xs) (j := (7 * N) + (2)) dL_law_1717 (x_kk rfl) rfl (ix_add rfl kn_2) (by omega) (by omega) ?_
  refine f_aload_n (M := mL_law) 1719 dL_law_1718 rfl rfl ?_
  refine f_iload (M := mL_law) 1721 dL_law_1719 rfl rfl ?_
  refine f_iconst (M := mL_law) 1722 dL_law_1721 ki_3 rfl ?_
  refine f_iadd (M := mL_law) 1723 dL_law_1722 rfl ?_
  refine e_iaf (M := mL_law) (w := Lw) (f := xs) (j := (7 * N) + (3)) dL_law_1723 (x_kk rfl) rfl (ix_add rfl kn_3) (by omega) (by omega) ?_
  refine e_cS (M := mL_law) [_] (c + 3) (k + 18) dL_law_1724 pa_10248 cc_10248 rfl rfl rfl rfl rfl (show c + 3 ≤ 601024 by omega) (show k + 18 ≤ 7293034 by omega) rfl (h1) rfl ?_
  refine f_istore (M := mL_law) (ls' := [_, _, _, _, _, _, _, _]) 1729 dL_law_1727 rfl rfl rfl ?_
  refine f_aload_n (M := mL_law) 1730 dL_law_1729 rfl rfl ?_
  refine f_aload_n (M := mL_law) 1731 dL_law_1730 rfl rfl ?_
  refine f_iload (M := mL_law) 1733 dL_law_1731 rfl rfl ?_
  refine f_iconst (M := mL_law) 1734 dL_law_1733 ki_1 rfl ?_
  refine f_iadd (M := mL_law) 1735 dL_law_1734 rfl ?_
  refine e_iaf (M := mL_law) (w := Lw) (f := xs) (j := (7 * N) + (1)) dL_law_1735 (x_kk rfl) rfl (ix_add rfl kn_1) (by omega) (by omega) ?_
  refine f_aload_n (M := mL_law) 1737 dL_law_1736 rfl rfl ?_
  refine f_iload (M := mL_law) 1739 dL_law_1737 rfl rfl ?_
  refine f_iconst (M := mL_law) 1740 dL_law_1739 ki_2 rfl ?_
  refine f_iadd (M := mL_law) 1741 dL_law_1740 rfl ?_
  refine e_iaf (M := mL_law) (w := Lw) (f := xs) (j := (7 * N) + (2)) dL_law_1741 (x_kk rfl) rfl (ix_add rfl kn_2) (by omega) (by omega) ?_
  refine f_aload_n (M := mL_law) 1743 dL_law_1742 rfl rfl ?_
  refine f_iload (M := mL_law) 1745 dL_law_1743 rfl rfl ?_
  refine f_iconst (M := mL_law) 1746 dL_law_1745 ki_3 rfl ?_
  refine f_iadd (M := mL_law) 1747 dL_law_1746 rfl ?_
  refine e_iaf (M := mL_law) (w := Lw) (f := xs) (j := (7 * N) + (3)) dL_law_1747 (x_kk rfl) rfl (ix_add rfl kn_3) (by omega) (by omega) ?_
  refine e_cV (M := mL_law) [] (c + 3) (k + 18) dL_law_1748 pa_10251 pb_10251 cc_10251 rfl rfl rfl rfl rfl (show c + 3 ≤ 601024 by omega) (show k + 18 ≤ 7293034 by omega) rfl (h2) rfl ?_
  refine f_aload_n (M := mL_law) 1752 dL_law_1751 rfl rfl ?_
  refine e_cV (M := mL_law) [_] (c + 3) (k + 18) dL_law_1752 pa_10163 pb_10163 cc_10163 rfl rfl rfl rfl rfl (show c + 3 ≤ 601024 by omega) (show k + 18 ≤ 7293034 by omega) rfl (c_X9_thrown) rfl ?_
  refine f_iload (M := mL_law) 1757 dL_law_1755 rfl rfl ?_
  refine e_icmp_eqT (M := mL_law) 1762 dL_law_1757 rfl ht ?_
  refine f_goto (M := mL_law) 2888 dL_law_1762 rfl ?_
  refine f_iinc (M := mL_law) (ls' := [_, _, _, _, _, _, _, _]) 2891 dL_law_2888 ki_7 rfl rfl rfl rfl ?_
  refine f_goto (M := mL_law) 23 dL_law_2891 rfl ?_
  rw [show Int32.ofNat (7 * N) + 7 = Int32.ofNat (7 * (N + 1)) from ix_add rfl kn_7]; exact hr
theorem law_26 (hlen : 7 * N + 7 ≤ Lw) (hLw : Lw ≤ 3584) (T : y_T N I L R) (hN : N < 512) (hc : c ≤ 233 + 4 * N) (hk : k ≤ 14655 + 24 * N) (hx : xs (7 * N) &&& 63 = Int32.ofNat 26) : y_Nx Lw xs N I L R c k w5 w6 w7 := by
  have sm : y_OI N (Lw, xs) mL_rate [.ref 0, .int (xs (7 * N + 1)), .int (xs (7 * N + 2)), .ref 232] mX9_rate [.ref 225, .int (xs (7 * N + 1)), .int (xs (7 * N + 2))] I L R := sim_rate (X := (Lw, xs)) T
  obtain ⟨k0, I1, L1, R1, v, I2, L2, h1, h2, ht, hv, T2⟩ := sm
  by_cases z : k0 = 0
  · refine ⟨I2, L2, R1, some (.int k0), some (.int v), w7, c + 2, k + 12, T2, by omega, by omega, fun r hr => ?_⟩
    refine e_tsI (j := 26) 1765 dL_law_40 rfl (by rw [hx]; decide) (by decide) rfl rfl ?_
    refine f_aload_n (M := mL_law) 1766 dL_law_1765 rfl rfl ?_
    refine f_aload_n (M := mL_law) 1767 dL_law_1766 rfl rfl ?_
    refine f_iload (M := mL_law) 1769 dL_law_1767 rfl rfl ?_
    refine f_iconst (M := mL_law) 1770 dL_law_1769 ki_1 rfl ?_
    refine f_iadd (M := mL_law) 1771 dL_law_1770 rfl ?_
    refine e_iaf (M := mL_law) (w := Lw) (f := xs) (j := (7 * N) + (1)) dL_law_1771 (x_kk rfl) rfl (ix_add rfl kn_1) (by omega) (by omega) ?_
    refine f_aload_n (M := mL_law) 1773 dL_law_1772 rfl rfl ?_
    refine f_iload (M := mL_law) 1775 dL_law_1773 rfl rfl ?_
    refine f_iconst (M := mL_law) 1776 dL_law_1775 ki_2 rfl ?_
    refine f_iadd (M := mL_law) 1777 dL_law_1776 rfl ?_
    refine e_iaf (M := mL_law) (w := Lw) (f := xs) (j := (7 * N) + (2)) dL_law_1777 (x_kk rfl) rfl (ix_add rfl kn_2) (by omega) (by omega) ?_
    refine f_aload_n (M := mL_law) 1779 dL_law_1778 rfl rfl ?_
    refine e_cS (M := mL_law) [_] (c + 2) (k + 12) dL_law_1779 pa_10252 cc_10252 rfl rfl rfl rfl rfl (show c + 2 ≤ 601024 by omega) (show k + 12 ≤ 7293034 by omega) rfl (h1) rfl ?_
    refine f_istore (M := mL_law) (ls' := [_, _, _, _, _, _, _, _]) 1784 dL_law_1782 rfl rfl rfl ?_
    refine f_aload_n (M := mL_law) 1785 dL_law_1784 rfl rfl ?_
    refine f_aload_n (M := mL_law) 1786 dL_law_1785 rfl rfl ?_
    refine f_iload (M := mL_law) 1788 dL_law_1786 rfl rfl ?_
    refine f_iconst (M := mL_law) 1789 dL_law_1788 ki_1 rfl ?_
    refine f_iadd (M := mL_law) 1790 dL_law_1789 rfl ?_
    refine e_iaf (M := mL_law) (w := Lw) (f := xs) (j := (7 * N) + (1)) dL_law_1790 (x_kk rfl) rfl (ix_add rfl kn_1) (by omega) (by omega) ?_
    refine f_aload_n (M := mL_law) 1792 dL_law_1791 rfl rfl ?_
    refine f_iload (M := mL_law) 1794 dL_law_1792 rfl rfl ?_
    refine f_iconst (M := mL_law) 1795 dL_law_1794 ki_2 rfl ?_
    refine f_iadd (M := mL_law) 1796 dL_law_1795 rfl ?_
    refine e_iaf (M := mL_law) (w := Lw) (f := xs) (j := (7 * N) + (2)) dL_law_1796 (x_kk rfl) rfl (ix_add rfl kn_2) (by omega) (by omega) ?_
    refine e_cV (M := mL_law) [_] (c + 2) (k + 12) dL_law_1797 pa_10254 pb_10254 cc_10254 rfl rfl rfl rfl rfl (show c + 2 ≤ 601024 by omega) (show k + 12 ≤ 7293034 by omega) rfl (h2) rfl ?_
    refine f_istore (M := mL_law) (ls' := [_, _, _, _, _, _, _, _]) 1802 dL_law_1800 rfl rfl rfl ?_
    refine f_aload_n (M := mL_law) 1803 dL_law_1802 rfl rfl ?_
    refine e_cV (M := mL_law) [_] (c + 2) (k + 12) dL_law_1803 pa_10163 pb_10163 cc_10163 rfl rfl rfl rfl rfl (show c + 2 ≤ 601024 by omega) (show k + 12 ≤ 7293034 by omega) rfl (c_X9_thrown) rfl ?_
    refine f_iload (M := mL_law) 1808 dL_law_1806 rfl rfl ?_
    refine e_icmp_eqT (M := mL_law) 1813 dL_law_1808 rfl ht ?_
    refine f_iload (M := mL_law) 1815 dL_law_1813 rfl rfl ?_
    refine e_if_neF (M := mL_law) 1830 dL_law_1815 rfl (fun q => q z) ?_
    refine f_aload_n (M := mL_law) 1819 dL_law_1818 rfl rfl ?_
    refine f_iconst (M := mL_law) 1820 dL_law_1819 ki_0 rfl ?_
    refine e_lld (M := mL_law) (w := 1) (j := 0) dL_law_1820 (x_kk rfl) rfl kn_0 (by omega) (by omega) ?_
    refine f_iload (M := mL_law) 1823 dL_law_1821 rfl rfl ?_
    refine f_i2l (M := mL_law) 1824 dL_law_1823 rfl ?_
    refine f_lcmp (M := mL_law) 1825 dL_law_1824 rfl ?_
    refine e_if_eqT (M := mL_law) 1830 dL_law_1825 rfl (lc_eq.mpr (hv z)) ?_
    refine f_goto (M := mL_law) 2888 dL_law_1830 rfl ?_
    refine f_iinc (M := mL_law) (ls' := [_, _, _, _, _, _, _, _]) 2891 dL_law_2888 ki_7 rfl rfl rfl rfl ?_
    refine f_goto (M := mL_law) 23 dL_law_2891 rfl ?_
    rw [show Int32.ofNat (7 * N) + 7 = Int32.ofNat (7 * (N + 1)) from ix_add rfl kn_7]; exact hr
  · refine ⟨I2, L2, R1, some (.int k0), some (.int v), w7, c + 2, k + 12, T2, by omega, by omega, fun r hr => ?_⟩
    refine e_tsI (j := 26) 1765 dL_law_40 rfl (by rw [hx]; decide) (by decide) rfl rfl ?_
    refine f_aload_n (M := mL_law) 1766 dL_law_1765 rfl rfl ?_
    refine f_aload_n (M := mL_law) 1767 dL_law_1766 rfl rfl ?_
    refine f_iload (M := mL_law) 1769 dL_law_1767 rfl rfl ?_
    refine f_iconst (M := mL_law) 1770 dL_law_1769 ki_1 rfl ?_
    refine f_iadd (M := mL_law) 1771 dL_law_1770 rfl ?_
    refine e_iaf (M := mL_law) (w := Lw) (f := xs) (j := (7 * N) + (1)) dL_law_1771 (x_kk rfl) rfl (ix_add rfl kn_1) (by omega) (by omega) ?_
    refine f_aload_n (M := mL_law) 1773 dL_law_1772 rfl rfl ?_
    refine f_iload (M := mL_law) 1775 dL_law_1773 rfl rfl ?_
    refine f_iconst (M := mL_law) 1776 dL_law_1775 ki_2 rfl ?_
    refine f_iadd (M := mL_law) 1777 dL_law_1776 rfl ?_
    refine e_iaf (M := mL_law) (w := Lw) (f := xs) (j := (7 * N) + (2)) dL_law_1777 (x_kk rfl) rfl (ix_add rfl kn_2) (by omega) (by omega) ?_
    refine f_aload_n (M := mL_law) 1779 dL_law_1778 rfl rfl ?_
    refine e_cS (M := mL_law) [_] (c + 2) (k + 12) dL_law_1779 pa_10252 cc_10252 rfl rfl rfl rfl rfl (show c + 2 ≤ 601024 by omega) (show k + 12 ≤ 7293034 by omega) rfl (h1) rfl ?_
    refine f_istore (M := mL_law) (ls' := [_, _, _, _, _, _, _, _]) 1784 dL_law_1782 rfl rfl rfl ?_
    refine f_aload_n (M := mL_law) 1785 dL_law_1784 rfl rfl ?_
    refine f_aload_n (M := mL_law) 1786 dL_law_1785 rfl rfl ?_
    refine f_iload (M := mL_law) 1788 dL_law_1786 rfl rfl ?_
    refine f_iconst (M := mL_law) 1789 dL_law_1788 ki_1 rfl ?_
    refine f_iadd (M := mL_law) 1790 dL_law_1789 rfl ?_
    refine e_iaf (M := mL_law) (w := Lw) (f := xs) (j := (7 * N) + (1)) dL_law_1790 (x_kk rfl) rfl (ix_add rfl kn_1) (by omega) (by omega) ?_
    refine f_aload_n (M := mL_law) 1792 dL_law_1791 rfl rfl ?_
    refine f_iload (M := mL_law) 1794 dL_law_1792 rfl rfl ?_
    refine f_iconst (M := mL_law) 1795 dL_law_1794 ki_2 rfl ?_
    refine f_iadd (M := mL_law) 1796 dL_law_1795 rfl ?_
    refine e_iaf (M := mL_law) (w := Lw) (f := xs) (j := (7 * N) + (2)) dL_law_1796 (x_kk rfl) rfl (ix_add rfl kn_2) (by omega) (by omega) ?_
    refine e_cV (M := mL_law) [_] (c + 2) (k + 12) dL_law_1797 pa_10254 pb_10254 cc_10254 rfl rfl rfl rfl rfl (show c + 2 ≤ 601024 by omega) (show k + 12 ≤ 7293034 by omega) rfl (h2) rfl ?_
    refine f_istore (M := mL_law) (ls' := [_, _, _, _, _, _, _, _]) 1802 dL_law_1800 rfl rfl rfl ?_
    refine f_aload_n (M := mL_law) 1803 dL_law_1802 rfl rfl ?_
    refine e_cV (M := mL_law) [_] (c + 2) (k + 12) dL_law_1803 pa_10163 pb_10163 cc_10163 rfl rfl rfl rfl rfl (show c + 2 ≤ 601024 by omega) (show k + 12 ≤ 7293034 by omega) rfl (c_X9_thrown) rfl ?_
    refine f_iload (M := mL_law) 1808 dL_law_1806 rfl rfl ?_
    refine e_icmp_eqT (M := mL_law) 1813 dL_law_1808 rfl ht ?_
    refine f_iload (M := mL_law) 1815 dL_law_1813 rfl rfl ?_
    refine e_if_neT (M := mL_law) 1830 dL_law_1815 rfl z ?_
    refine f_goto (M := mL_law) 2888 dL_law_1830 rfl ?_
    refine f_iinc (M := mL_law) (ls' := [_, _, _, _, _, _, _, _]) 2891 dL_law_2888 ki_7 rfl rfl rfl rfl ?_
    refine f_goto (M := mL_law) 23 dL_law_2891 rfl ?_
    rw [show Int32.ofNat (7 * N) + 7 = Int32.ofNat (7 * (N + 1)) from ix_add rfl kn_7]; exact hr
theorem law_27 (hlen : 7 * N + 7 ≤ Lw) (hLw : Lw ≤ 3584) (T : y_T N I L R) (hN : N < 512) (hc : c ≤ 233 + 4 * N) (hk : k ≤ 14655 + 24 * N) (hx : xs (7 * N) &&& 63 = Int32.ofNat 27) : y_Nx Lw xs N I L R c k w5 w6 w7 := by
  have sm : y_OI N (Lw, xs) mL_indexFor [.ref 0, .int (xs (7 * N + 1)), .int (xs (7 * N + 2)), .ref 232] mX9_indexFor [.ref 225, .int (xs (7 * N + 1)), .int (xs (7 * N + 2))] I L R := sim_indexFor (X := (Lw, xs)) T
  obtain ⟨k0, I1, L1, R1, v, I2, L2, h1, h2, ht, hv, T2⟩ := sm
  by_cases z : k0 = 0
  · refine ⟨I2, L2, R1, some (.int k0), some (.int v), w7, c + 4, k + 24, T2, by omega, by omega, fun r hr => ?_⟩
    refine e_tsI (j := 27) 1833 dL_law_40 rfl (by rw [hx]; decide) (by decide) rfl rfl ?_
    refine f_aload_n (M := mL_law) 1834 dL_law_1833 rfl rfl ?_
    refine f_aload_n (M := mL_law) 1835 dL_law_1834 rfl rfl ?_
    refine f_iload (M := mL_law) 1837 dL_law_1835 rfl rfl ?_
    refine f_iconst (M := mL_law) 1838 dL_law_1837 ki_1 rfl ?_
    refine f_iadd (M := mL_law) 1839 dL_law_1838 rfl ?_
    refine e_iaf (M := mL_law) (w := Lw) (f := xs) (j := (7 * N) + (1)) dL_law_1839 (x_kk rfl) rfl (ix_add rfl kn_1) (by omega) (by omega) ?_
    refine f_aload_n (M := mL_law) 1841 dL_law_1840 rfl rfl ?_
    refine f_iload (M := mL_law) 1843 dL_law_1841 rfl rfl ?_
    refine f_iconst (M := mL_law) 1844 dL_law_1843 ki_2 rfl ?_
    refine f_iadd (M := mL_law) 1845 dL_law_1844 rfl ?_
    refine e_iaf (M := mL_law) (w := Lw) (f := xs) (j := (7 * N) + (2)) dL_law_1845 (x_kk rfl) rfl (ix_add rfl kn_2) (by omega) (by omega) ?_
    refine f_aload_n (M := mL_law) 1847 dL_law_1846 rfl rfl ?_
    refine e_cS (M := mL_law) [_] (c + 4) (k + 24) dL_law_1847 pa_10255 cc_10255 rfl rfl rfl rfl rfl (show c + 4 ≤ 601024 by omega) (show k + 24 ≤ 7293034 by omega) rfl (h1) rfl ?_
    refine f_istore (M := mL_law) (ls' := [_, _, _, _, _, _, _, _]) 1852 dL_law_1850 rfl rfl rfl ?_
    refine f_aload_n (M := mL_law) 1853 dL_law_1852 rfl rfl ?_
    refine f_aload_n (M := mL_law) 1854 dL_law_1853 rfl rfl ?_
    refine f_iload (M := mL_law) 1856 dL_law_1854 rfl rfl ?_
    refine f_iconst (M := mL_law) 1857 dL_law_1856 ki_1 rfl ?_
    refine f_iadd (M := mL_law) 1858 dL_law_1857 rfl ?_
    refine e_iaf (M := mL_law) (w := Lw) (f := xs) (j := (7 * N) + (1)) dL_law_1858 (x_kk rfl) rfl (ix_add rfl kn_1) (by omega) (by omega) ?_
    refine f_aload_n (M := mL_law) 1860 dL_law_1859 rfl rfl ?_
    refine f_iload (M := mL_law) 1862 dL_law_1860 rfl rfl ?_
    refine f_iconst (M := mL_law) 1863 dL_law_1862 ki_2 rfl ?_
    refine f_iadd (M := mL_law) 1864 dL_law_1863 rfl ?_
    refine e_iaf (M := mL_law) (w := Lw) (f := xs) (j := (7 * N) + (2)) dL_law_1864 (x_kk rfl) rfl (ix_add rfl kn_2) (by omega) (by omega) ?_
    refine e_cV (M := mL_law) [_] (c + 4) (k + 24) dL_law_1865 pa_10257 pb_10257 cc_10257 rfl rfl rfl rfl rfl (show c + 4 ≤ 601024 by omega) (show k + 24 ≤ 7293034 by omega) rfl (h2) rfl ?_
    refine f_istore (M := mL_law) (ls' := [_, _, _, _, _, _, _, _]) 1870 dL_law_1868 rfl rfl rfl ?_
    refine f_aload_n (M := mL_law) 1871 dL_law_1870 rfl rfl ?_
    refine e_cV (M := mL_law) [_] (c + 4) (k + 24) dL_law_1871 pa_10163 pb_10163 cc_10163 rfl rfl rfl rfl rfl (show c + 4 ≤ 601024 by omega) (show k + 24 ≤ 7293034 by omega) rfl (c_X9_thrown) rfl ?_
    refine f_iload (M := mL_law) 1876 dL_law_1874 rfl rfl ?_
    refine e_icmp_eqT (M := mL_law) 1881 dL_law_1876 rfl ht ?_
    refine f_iload (M := mL_law) 1883 dL_law_1881 rfl rfl ?_
    refine e_if_neF (M := mL_law) 1898 dL_law_1883 rfl (fun q => q z) ?_
    refine f_aload_n (M := mL_law) 1887 dL_law_1886 rfl rfl ?_
    refine f_iconst (M := mL_law) 1888 dL_law_1887 ki_0 rfl ?_
    refine e_lld (M := mL_law) (w := 1) (j := 0) dL_law_1888 (x_kk rfl) rfl kn_0 (by omega) (by omega) ?_
    refine f_iload (M := mL_law) 1891 dL_law_1889 rfl rfl ?_
    refine f_i2l (M := mL_law) 1892 dL_law_1891 rfl ?_
    refine f_lcmp (M := mL_law) 1893 dL_law_1892 rfl ?_
    refine e_if_eqT (M := mL_law) 1898 dL_law_1893 rfl (lc_eq.mpr (hv z)) ?_
    refine f_goto (M := mL_law) 2888 dL_law_1898 rfl ?_
    refine f_iinc (M := mL_law) (ls' := [_, _, _, _, _, _, _, _]) 2891 dL_law_2888 ki_7 rfl rfl rfl rfl ?_
    refine f_goto (M := mL_law) 23 dL_law_2891 rfl ?_
    rw [show Int32.ofNat (7 * N) + 7 = Int32.ofNat (7 * (N + 1)) from ix_add rfl kn_7]; exact hr
  · refine ⟨I2, L2, R1, some (.int k0), some (.int v), w7, c + 4, k + 24, T2, by omega, by omega, fun r hr => ?_⟩
    refine e_tsI (j := 27) 1833 dL_law_40 rfl (by rw [hx]; decide) (by decide) rfl rfl ?_
    refine f_aload_n (M := mL_law) 1834 dL_law_1833 rfl rfl ?_
    refine f_aload_n (M := mL_law) 1835 dL_law_1834 rfl rfl ?_
    refine f_iload (M := mL_law) 1837 dL_law_1835 rfl rfl ?_
    refine f_iconst (M := mL_law) 1838 dL_law_1837 ki_1 rfl ?_
    refine f_iadd (M := mL_law) 1839 dL_law_1838 rfl ?_
    refine e_iaf (M := mL_law) (w := Lw) (f := xs) (j := (7 * N) + (1)) dL_law_1839 (x_kk rfl) rfl (ix_add rfl kn_1) (by omega) (by omega) ?_
    refine f_aload_n (M := mL_law) 1841 dL_law_1840 rfl rfl ?_
    refine f_iload (M := mL_law) 1843 dL_law_1841 rfl rfl ?_
    refine f_iconst (M := mL_law) 1844 dL_law_1843 ki_2 rfl ?_
    refine f_iadd (M := mL_law) 1845 dL_law_1844 rfl ?_
    refine e_iaf (M := mL_law) (w := Lw) (f := xs) (j := (7 * N) + (2)) dL_law_1845 (x_kk rfl) rfl (ix_add rfl kn_2) (by omega) (by omega) ?_
    refine f_aload_n (M := mL_law) 1847 dL_law_1846 rfl rfl ?_
    refine e_cS (M := mL_law) [_] (c + 4) (k + 24) dL_law_1847 pa_10255 cc_10255 rfl rfl rfl rfl rfl (show c + 4 ≤ 601024 by omega) (show k + 24 ≤ 7293034 by omega) rfl (h1) rfl ?_
    refine f_istore (M := mL_law) (ls' := [_, _, _, _, _, _, _, _]) 1852 dL_law_1850 rfl rfl rfl ?_
    refine f_aload_n (M := mL_law) 1853 dL_law_1852 rfl rfl ?_
    refine f_aload_n (M := mL_law) 1854 dL_law_1853 rfl rfl ?_
    refine f_iload (M := mL_law) 1856 dL_law_1854 rfl rfl ?_
    refine f_iconst (M := mL_law) 1857 dL_law_1856 ki_1 rfl ?_
    refine f_iadd (M := mL_law) 1858 dL_law_1857 rfl ?_
    refine e_iaf (M := mL_law) (w := Lw) (f := xs) (j := (7 * N) + (1)) dL_law_1858 (x_kk rfl) rfl (ix_add rfl kn_1) (by omega) (by omega) ?_
    refine f_aload_n (M := mL_law) 1860 dL_law_1859 rfl rfl ?_
    refine f_iload (M := mL_law) 1862 dL_law_1860 rfl rfl ?_
    refine f_iconst (M := mL_law) 1863 dL_law_1862 ki_2 rfl ?_
    refine f_iadd (M := mL_law) 1864 dL_law_1863 rfl ?_
    refine e_iaf (M := mL_law) (w := Lw) (f := xs) (j := (7 * N) + (2)) dL_law_1864 (x_kk rfl) rfl (ix_add rfl kn_2) (by omega) (by omega) ?_
    refine e_cV (M := mL_law) [_] (c + 4) (k + 24) dL_law_1865 pa_10257 pb_10257 cc_10257 rfl rfl rfl rfl rfl (show c + 4 ≤ 601024 by omega) (show k + 24 ≤ 7293034 by omega) rfl (h2) rfl ?_
    refine f_istore (M := mL_law) (ls' := [_, _, _, _, _, _, _, _]) 1870 dL_law_1868 rfl rfl rfl ?_
    refine f_aload_n (M := mL_law) 1871 dL_law_1870 rfl rfl ?_
    refine e_cV (M := mL_law) [_] (c + 4) (k + 24) dL_law_1871 pa_10163 pb_10163 cc_10163 rfl rfl rfl rfl rfl (show c + 4 ≤ 601024 by omega) (show k + 24 ≤ 7293034 by omega) rfl (c_X9_thrown) rfl ?_
    refine f_iload (M := mL_law) 1876 dL_law_1874 rfl rfl ?_
    refine e_icmp_eqT (M := mL_law) 1881 dL_law_1876 rfl ht ?_
    refine f_iload (M := mL_law) 1883 dL_law_1881 rfl rfl ?_
    refine e_if_neT (M := mL_law) 1898 dL_law_1883 rfl z ?_
    refine f_goto (M := mL_law) 2888 dL_law_1898 rfl ?_
    refine f_iinc (M := mL_law) (ls' := [_, _, _, _, _, _, _, _]) 2891 dL_law_2888 ki_7 rfl rfl rfl rfl ?_
    refine f_goto (M := mL_law) 23 dL_law_2891 rfl ?_
    rw [show Int32.ofNat (7 * N) + 7 = Int32.ofNat (7 * (N + 1)) from ix_add rfl kn_7]; exact hr
theorem law_28 (hlen : 7 * N + 7 ≤ Lw) (hLw : Lw ≤ 3584) (T : y_T N I L R) (hN : N < 512) (hc : c ≤ 233 + 4 * N) (hk : k ≤ 14655 + 24 * N) (hx : xs (7 * N) &&& 63 = Int32.ofNat 28) : y_Nx Lw xs N I L R c k w5 w6 w7 := by
  have sm : y_OI N (Lw, xs) mL_scale [.ref 0, .int (xs (7 * N + 1)), .int (xs (7 * N + 2)), .int (xs (7 * N + 3)), .ref 232] mX9_scale [.ref 225, .int (xs (7 * N + 1)), .int (xs (7 * N + 2)), .int (xs (7 * N + 3))] I L R := sim_scale (X := (Lw, xs)) T
  obtain ⟨k0, I1, L1, R1, v, I2, L2, h1, h2, ht, hv, T2⟩ := sm
  by_cases z : k0 = 0
  · refine ⟨I2, L2, R1, some (.int k0), some (.int v), w7, c + 3, k + 18, T2, by omega, by omega, fun r hr => ?_⟩
    refine e_tsI (j := 28) 1901 dL_law_40 rfl (by rw [hx]; decide) (by decide) rfl rfl ?_
    refine f_aload_n (M := mL_law) 1902 dL_law_1901 rfl rfl ?_
    refine f_aload_n (M := mL_law) 1903 dL_law_1902 rfl rfl ?_
    refine f_iload (M := mL_law) 1905 dL_law_1903 rfl rfl ?_
    refine f_iconst (M := mL_law) 1906 dL_law_1905 ki_1 rfl ?_
    refine f_iadd (M := mL_law) 1907 dL_law_1906 rfl ?_
    refine e_iaf (M := mL_law) (w := Lw) (f := xs) (j := (7 * N) + (1)) dL_law_1907 (x_kk rfl) rfl (ix_add rfl kn_1) (by omega) (by omega) ?_
    refine f_aload_n (M := mL_law) 1909 dL_law_1908 rfl rfl ?_
    refine f_iload (M := mL_law) 1911 dL_law_1909 rfl rfl ?_
    refine f_iconst (M := mL_law) 1912 dL_law_1911 ki_2 rfl ?_
    refine f_iadd (M := mL_law) 1913 dL_law_1912 rfl ?_
    refine e_iaf (M := mL_law) (w := Lw) (f := xs) (j := (7 * N) + (2)) dL_law_1913 (x_kk rfl) rfl (ix_add rfl kn_2) (by omega) (by omega) ?_
    refine f_aload_n (M := mL_law) 1915 dL_law_1914 rfl rfl ?_
    refine f_iload (M := mL_law) 1917 dL_law_1915 rfl rfl ?_
    refine f_iconst (M := mL_law) 1918 dL_law_1917 ki_3 rfl ?_
    refine f_iadd (M := mL_law) 1919 dL_law_1918 rfl ?_
    refine e_iaf (M := mL_law) (w := Lw) (f := xs) (j := (7 * N) + (3)) dL_law_1919 (x_kk rfl) rfl (ix_add rfl kn_3) (by omega) (by omega) ?_
    refine f_aload_n (M := mL_law) 1921 dL_law_1920 rfl rfl ?_
    refine e_cS (M := mL_law) [_] (c + 3) (k + 18) dL_law_1921 pa_10258 cc_10258 rfl rfl rfl rfl rfl (show c + 3 ≤ 601024 by omega) (show k + 18 ≤ 7293034 by omega) rfl (h1) rfl ?_
    refine f_istore (M := mL_law) (ls' := [_, _, _, _, _, _, _, _]) 1926 dL_law_1924 rfl rfl rfl ?_
    refine f_aload_n (M := mL_law) 1927 dL_law_1926 rfl rfl ?_
    refine f_aload_n (M := mL_law) 1928 dL_law_1927 rfl rfl ?_
    refine f_iload (M := mL_law) 1930 dL_law_1928 rfl rfl ?_
    refine f_iconst (M := mL_law) 1931 dL_law_1930 ki_1 rfl ?_
    refine f_iadd (M := mL_law) 1932 dL_law_1931 rfl ?_
    refine e_iaf (M := mL_law) (w := Lw) (f := xs) (j := (7 * N) + (1)) dL_law_1932 (x_kk rfl) rfl (ix_add rfl kn_1) (by omega) (by omega) ?_
    refine f_aload_n (M := mL_law) 1934 dL_law_1933 rfl rfl ?_
    refine f_iload (M := mL_law) 1936 dL_law_1934 rfl rfl ?_
    refine f_iconst (M := mL_law) 1937 dL_law_1936 ki_2 rfl ?_
    refine f_iadd (M := mL_law) 1938 dL_law_1937 rfl ?_
    refine e_iaf (M := mL_law) (w := Lw) (f := xs) (j := (7 * N) + (2)) dL_law_1938 (x_kk rfl) rfl (ix_add rfl kn_2) (by omega) (by omega) ?_
    refine f_aload_n (M := mL_law) 1940 dL_law_1939 rfl rfl ?_
    refine f_iload (M := mL_law) 1942 dL_law_1940 rfl rfl ?_
    refine f_iconst (M := mL_law) 1943 dL_law_1942 ki_3 rfl ?_
    refine f_iadd (M := mL_law) 1944 dL_law_1943 rfl ?_
    refine e_iaf (M := mL_law) (w := Lw) (f := xs) (j := (7 * N) + (3)) dL_law_1944 (x_kk rfl) rfl (ix_add rfl kn_3) (by omega) (by omega) ?_
    refine e_cV (M := mL_law) [_] (c + 3) (k + 18) dL_law_1945 pa_10260 pb_10260 cc_10260 rfl rfl rfl rfl rfl (show c + 3 ≤ 601024 by omega) (show k + 18 ≤ 7293034 by omega) rfl (h2) rfl ?_
    refine f_istore (M := mL_law) (ls' := [_, _, _, _, _, _, _, _]) 1950 dL_law_1948 rfl rfl rfl ?_
    refine f_aload_n (M := mL_law) 1951 dL_law_1950 rfl rfl ?_
    refine e_cV (M := mL_law) [_] (c + 3) (k + 18) dL_law_1951 pa_10163 pb_10163 cc_10163 rfl rfl rfl rfl rfl (show c + 3 ≤ 601024 by omega) (show k + 18 ≤ 7293034 by omega) rfl (c_X9_thrown) rfl ?_
    refine f_iload (M := mL_law) 1956 dL_law_1954 rfl rfl ?_
    refine e_icmp_eqT (M := mL_law) 1961 dL_law_1956 rfl ht ?_
    refine f_iload (M := mL_law) 1963 dL_law_1961 rfl rfl ?_
    refine e_if_neF (M := mL_law) 1978 dL_law_1963 rfl (fun q => q z) ?_
    refine f_aload_n (M := mL_law) 1967 dL_law_1966 rfl rfl ?_
    refine f_iconst (M := mL_law) 1968 dL_law_1967 ki_0 rfl ?_
    refine e_lld (M := mL_law) (w := 1) (j := 0) dL_law_1968 (x_kk rfl) rfl kn_0 (by omega) (by omega) ?_
    refine f_iload (M := mL_law) 1971 dL_law_1969 rfl rfl ?_
    refine f_i2l (M := mL_law) 1972 dL_law_1971 rfl ?_
    refine f_lcmp (M := mL_law) 1973 dL_law_1972 rfl ?_
    refine e_if_eqT (M := mL_law) 1978 dL_law_1973 rfl (lc_eq.mpr (hv z)) ?_
    refine f_goto (M := mL_law) 2888 dL_law_1978 rfl ?_
    refine f_iinc (M := mL_law) (ls' := [_, _, _, _, _, _, _, _]) 2891 dL_law_2888 ki_7 rfl rfl rfl rfl ?_
    refine f_goto (M := mL_law) 23 dL_law_2891 rfl ?_
    rw [show Int32.ofNat (7 * N) + 7 = Int32.ofNat (7 * (N + 1)) from ix_add rfl kn_7]; exact hr
  · refine ⟨I2, L2, R1, some (.int k0), some (.int v), w7, c + 3, k + 18, T2, by omega, by omega, fun r hr => ?_⟩
    refine e_tsI (j := 28) 1901 dL_law_40 rfl (by rw [hx]; decide) (by decide) rfl rfl ?_
    refine f_aload_n (M := mL_law) 1902 dL_law_1901 rfl rfl ?_
    refine f_aload_n (M := mL_law) 1903 dL_law_1902 rfl rfl ?_
    refine f_iload (M := mL_law) 1905 dL_law_1903 rfl rfl ?_
    refine f_iconst (M := mL_law) 1906 dL_law_1905 ki_1 rfl ?_
    refine f_iadd (M := mL_law) 1907 dL_law_1906 rfl ?_
    refine e_iaf (M := mL_law) (w := Lw) (f := xs) (j := (7 * N) + (1)) dL_law_1907 (x_kk rfl) rfl (ix_add rfl kn_1) (by omega) (by omega) ?_
    refine f_aload_n (M := mL_law) 1909 dL_law_1908 rfl rfl ?_
    refine f_iload (M := mL_law) 1911 dL_law_1909 rfl rfl ?_
    refine f_iconst (M := mL_law) 1912 dL_law_1911 ki_2 rfl ?_
    refine f_iadd (M := mL_law) 1913 dL_law_1912 rfl ?_
    refine e_iaf (M := mL_law) (w := Lw) (f := xs) (j := (7 * N) + (2)) dL_law_1913 (x_kk rfl) rfl (ix_add rfl kn_2) (by omega) (by omega) ?_
    refine f_aload_n (M := mL_law) 1915 dL_law_1914 rfl rfl ?_
    refine f_iload (M := mL_law) 1917 dL_law_1915 rfl rfl ?_
    refine f_iconst (M := mL_law) 1918 dL_law_1917 ki_3 rfl ?_
    refine f_iadd (M := mL_law) 1919 dL_law_1918 rfl ?_
    refine e_iaf (M := mL_law) (w := Lw) (f := xs) (j := (7 * N) + (3)) dL_law_1919 (x_kk rfl) rfl (ix_add rfl kn_3) (by omega) (by omega) ?_
    refine f_aload_n (M := mL_law) 1921 dL_law_1920 rfl rfl ?_
    refine e_cS (M := mL_law) [_] (c + 3) (k + 18) dL_law_1921 pa_10258 cc_10258 rfl rfl rfl rfl rfl (show c + 3 ≤ 601024 by omega) (show k + 18 ≤ 7293034 by omega) rfl (h1) rfl ?_
    refine f_istore (M := mL_law) (ls' := [_, _, _, _, _, _, _, _]) 1926 dL_law_1924 rfl rfl rfl ?_
    refine f_aload_n (M := mL_law) 1927 dL_law_1926 rfl rfl ?_
    refine f_aload_n (M := mL_law) 1928 dL_law_1927 rfl rfl ?_
    refine f_iload (M := mL_law) 1930 dL_law_1928 rfl rfl ?_
    refine f_iconst (M := mL_law) 1931 dL_law_1930 ki_1 rfl ?_
    refine f_iadd (M := mL_law) 1932 dL_law_1931 rfl ?_
    refine e_iaf (M := mL_law) (w := Lw) (f := xs) (j := (7 * N) + (1)) dL_law_1932 (x_kk rfl) rfl (ix_add rfl kn_1) (by omega) (by omega) ?_
    refine f_aload_n (M := mL_law) 1934 dL_law_1933 rfl rfl ?_
    refine f_iload (M := mL_law) 1936 dL_law_1934 rfl rfl ?_
    refine f_iconst (M := mL_law) 1937 dL_law_1936 ki_2 rfl ?_
    refine f_iadd (M := mL_law) 1938 dL_law_1937 rfl ?_
    refine e_iaf (M := mL_law) (w := Lw) (f := xs) (j := (7 * N) + (2)) dL_law_1938 (x_kk rfl) rfl (ix_add rfl kn_2) (by omega) (by omega) ?_
    refine f_aload_n (M := mL_law) 1940 dL_law_1939 rfl rfl ?_
    refine f_iload (M := mL_law) 1942 dL_law_1940 rfl rfl ?_
    refine f_iconst (M := mL_law) 1943 dL_law_1942 ki_3 rfl ?_
    refine f_iadd (M := mL_law) 1944 dL_law_1943 rfl ?_
    refine e_iaf (M := mL_law) (w := Lw) (f := xs) (j := (7 * N) + (3)) dL_law_1944 (x_kk rfl) rfl (ix_add rfl kn_3) (by omega) (by omega) ?_
    refine e_cV (M := mL_law) [_] (c + 3) (k + 18) dL_law_1945 pa_10260 pb_10260 cc_10260 rfl rfl rfl rfl rfl (show c + 3 ≤ 601024 by omega) (show k + 18 ≤ 7293034 by omega) rfl (h2) rfl ?_
    refine f_istore (M := mL_law) (ls' := [_, _, _, _, _, _, _, _]) 1950 dL_law_1948 rfl rfl rfl ?_
    refine f_aload_n (M := mL_law) 1951 dL_law_1950 rfl rfl ?_
    refine e_cV (M := mL_law) [_] (c + 3) (k + 18) dL_law_1951 pa_10163 pb_10163 cc_10163 rfl rfl rfl rfl rfl (show c + 3 ≤ 601024 by omega) (show k + 18 ≤ 7293034 by omega) rfl (c_X9_thrown) rfl ?_
    refine f_iload (M := mL_law) 1956 dL_law_1954 rfl rfl ?_
    refine e_icmp_eqT (M := mL_law) 1961 dL_law_1956 rfl ht ?_
    refine f_iload (M := mL_law) 1963 dL_law_1961 rfl rfl ?_
    refine e_if_neT (M := mL_law) 1978 dL_law_1963 rfl z ?_
    refine f_goto (M := mL_law) 2888 dL_law_1978 rfl ?_
    refine f_iinc (M := mL_law) (ls' := [_, _, _, _, _, _, _, _]) 2891 dL_law_2888 ki_7 rfl rfl rfl rfl ?_
    refine f_goto (M := mL_law) 23 dL_law_2891 rfl ?_
    rw [show Int32.ofNat (7 * N) + 7 = Int32.ofNat (7 * (N + 1)) from ix_add rfl kn_7]; exact hr
theorem law_29 (hlen : 7 * N + 7 ≤ Lw) (hLw : Lw ≤ 3584) (T : y_T N I L R) (hN : N < 512) (hc : c ≤ 233 + 4 * N) (hk : k ≤ 14655 + 24 * N) (hx : xs (7 * N) &&& 63 = Int32.ofNat 29) : y_Nx Lw xs N I L R c k w5 w6 w7 := by
  have sm : y_OI N (Lw, xs) mL_check [.ref 0, .int (xs (7 * N + 1)), .int (xs (7 * N + 2)), .int (xs (7 * N + 3)), .ref 232] mX9_check [.ref 225, .int (xs (7 * N + 1)), .int (xs (7 * N + 2)), .int (xs (7 * N + 3))] I L R := sim_check (X := (Lw, xs)) T
  obtain ⟨k0, I1, L1, R1, v, I2, L2, h1, h2, ht, hv, T2⟩ := sm
  by_cases z : k0 = 0
  · refine ⟨I2, L2, R1, some (.int k0), some (.int v), w7, c + 3, k + 18, T2, by omega, by omega, fun r hr => ?_⟩
    refine e_tsI (j := 29) 1981 dL_law_40 rfl (by rw [hx]; decide) (by decide) rfl rfl ?_
    refine f_aload_n (M := mL_law) 1982 dL_law_1981 rfl rfl ?_
    refine f_aload_n (M := mL_law) 1983 dL_law_1982 rfl rfl ?_
    refine f_iload (M := mL_law) 1985 dL_law_1983 rfl rfl ?_
    refine f_iconst (M := mL_law) 1986 dL_law_1985 ki_1 rfl ?_
    refine f_iadd (M := mL_law) 1987 dL_law_1986 rfl ?_
    refine e_iaf (M := mL_law) (w := Lw) (f := xs) (j := (7 * N) + (1)) dL_law_1987 (x_kk rfl) rfl (ix_add rfl kn_1) (by omega) (by omega) ?_
    refine f_aload_n (M := mL_law) 1989 dL_law_1988 rfl rfl ?_
    refine f_iload (M := mL_law) 1991 dL_law_1989 rfl rfl ?_
    refine f_iconst (M := mL_law) 1992 dL_law_1991 ki_2 rfl ?_
    refine f_iadd (M := mL_law) 1993 dL_law_1992 rfl ?_
    refine e_iaf (M := mL_law) (w := Lw) (f := xs) (j := (7 * N) + (2)) dL_law_1993 (x_kk rfl) rfl (ix_add rfl kn_2) (by omega) (by omega) ?_
    refine f_aload_n (M := mL_law) 1995 dL_law_1994 rfl rfl ?_
    refine f_iload (M := mL_law) 1997 dL_law_1995 rfl rfl ?_
    refine f_iconst (M := mL_law) 1998 dL_law_1997 ki_3 rfl ?_
    refine f_iadd (M := mL_law) 1999 dL_law_1998 rfl ?_
    refine e_iaf (M := mL_law) (w := Lw) (f := xs) (j := (7 * N) + (3)) dL_law_1999 (x_kk rfl) rfl (ix_add rfl kn_3) (by omega) (by omega) ?_
    refine f_aload_n (M := mL_law) 2001 dL_law_2000 rfl rfl ?_
    refine e_cS (M := mL_law) [_] (c + 3) (k + 18) dL_law_2001 pa_10261 cc_10261 rfl rfl rfl rfl rfl (show c + 3 ≤ 601024 by omega) (show k + 18 ≤ 7293034 by omega) rfl (h1) rfl ?_
    refine f_istore (M := mL_law) (ls' := [_, _, _, _, _, _, _, _]) 2006 dL_law_2004 rfl rfl rfl ?_
    refine f_aload_n (M := mL_law) 2007 dL_law_2006 rfl rfl ?_
    refine f_aload_n (M := mL_law) 2008 dL_law_2007 rfl rfl ?_
    refine f_iload (M := mL_law) 2010 dL_law_2008 rfl rfl ?_
    refine f_iconst (M := mL_law) 2011 dL_law_2010 ki_1 rfl ?_
    refine f_iadd (M := mL_law) 2012 dL_law_2011 rfl ?_
    refine e_iaf (M := mL_law) (w := Lw) (f := xs) (j := (7 * N) + (1)) dL_law_2012 (x_kk rfl) rfl (ix_add rfl kn_1) (by omega) (by omega) ?_
    refine f_aload_n (M := mL_law) 2014 dL_law_2013 rfl rfl ?_
    refine f_iload (M := mL_law) 2016 dL_law_2014 rfl rfl ?_
    refine f_iconst (M := mL_law) 2017 dL_law_2016 ki_2 rfl ?_
    refine f_iadd (M := mL_law) 2018 dL_law_2017 rfl ?_
    refine e_iaf (M := mL_law) (w := Lw) (f := xs) (j := (7 * N) + (2)) dL_law_2018 (x_kk rfl) rfl (ix_add rfl kn_2) (by omega) (by omega) ?_
    refine f_aload_n (M := mL_law) 2020 dL_law_2019 rfl rfl ?_
    refine f_iload (M := mL_law) 2022 dL_law_2020 rfl rfl ?_
    refine f_iconst (M := mL_law) 2023 dL_law_2022 ki_3 rfl ?_
    refine f_iadd (M := mL_law) 2024 dL_law_2023 rfl ?_
    refine e_iaf (M := mL_law) (w := Lw) (f := xs) (j := (7 * N) + (3)) dL_law_2024 (x_kk rfl) rfl (ix_add rfl kn_3) (by omega) (by omega) ?_
    refine e_cV (M := mL_law) [_] (c + 3) (k + 18) dL_law_2025 pa_10263 pb_10263 cc_10263 rfl rfl rfl rfl rfl (show c + 3 ≤ 601024 by omega) (show k + 18 ≤ 7293034 by omega) rfl (h2) rfl ?_
    refine f_istore (M := mL_law) (ls' := [_, _, _, _, _, _, _, _]) 2030 dL_law_2028 rfl rfl rfl ?_
    refine f_aload_n (M := mL_law) 2031 dL_law_2030 rfl rfl ?_
    refine e_cV (M := mL_law) [_] (c + 3) (k + 18) dL_law_2031 pa_10163 pb_10163 cc_10163 rfl rfl rfl rfl rfl (show c + 3 ≤ 601024 by omega) (show k + 18 ≤ 7293034 by omega) rfl (c_X9_thrown) rfl ?_
    refine f_iload (M := mL_law) 2036 dL_law_2034 rfl rfl ?_
    refine e_icmp_eqT (M := mL_law) 2041 dL_law_2036 rfl ht ?_
    refine f_iload (M := mL_law) 2043 dL_law_2041 rfl rfl ?_
    refine e_if_neF (M := mL_law) 2058 dL_law_2043 rfl (fun q => q z) ?_
    refine f_aload_n (M := mL_law) 2047 dL_law_2046 rfl rfl ?_
    refine f_iconst (M := mL_law) 2048 dL_law_2047 ki_0 rfl ?_
    refine e_lld (M := mL_law) (w := 1) (j := 0) dL_law_2048 (x_kk rfl) rfl kn_0 (by omega) (by omega) ?_
    refine f_iload (M := mL_law) 2051 dL_law_2049 rfl rfl ?_
    refine f_i2l (M := mL_law) 2052 dL_law_2051 rfl ?_
    refine f_lcmp (M := mL_law) 2053 dL_law_2052 rfl ?_
    refine e_if_eqT (M := mL_law) 2058 dL_law_2053 rfl (lc_eq.mpr (hv z)) ?_
    refine f_goto (M := mL_law) 2888 dL_law_2058 rfl ?_
    refine f_iinc (M := mL_law) (ls' := [_, _, _, _, _, _, _, _]) 2891 dL_law_2888 ki_7 rfl rfl rfl rfl ?_
    refine f_goto (M := mL_law) 23 dL_law_2891 rfl ?_
    rw [show Int32.ofNat (7 * N) + 7 = Int32.ofNat (7 * (N + 1)) from ix_add rfl kn_7]; exact hr
  · refine ⟨I2, L2, R1, some (.int k0), some (.int v), w7, c + 3, k + 18, T2, by omega, by omega, fun r hr => ?_⟩
    refine e_tsI (j := 29) 1981 dL_law_40 rfl (by rw [hx]; decide) (by decide) rfl rfl ?_
    refine f_aload_n (M := mL_law) 1982 dL_law_1981 rfl rfl ?_
    refine f_aload_n (M := mL_law) 1983 dL_law_1982 rfl rfl ?_
    refine f_iload (M := mL_law) 1985 dL_law_1983 rfl rfl ?_
    refine f_iconst (M := mL_law) 1986 dL_law_1985 ki_1 rfl ?_
    refine f_iadd (M := mL_law) 1987 dL_law_1986 rfl ?_
    refine e_iaf (M := mL_law) (w := Lw) (f := xs) (j := (7 * N) + (1)) dL_law_1987 (x_kk rfl) rfl (ix_add rfl kn_1) (by omega) (by omega) ?_
    refine f_aload_n (M := mL_law) 1989 dL_law_1988 rfl rfl ?_
    refine f_iload (M := mL_law) 1991 dL_law_1989 rfl rfl ?_
    refine f_iconst (M := mL_law) 1992 dL_law_1991 ki_2 rfl ?_
    refine f_iadd (M := mL_law) 1993 dL_law_1992 rfl ?_
    refine e_iaf (M := mL_law) (w := Lw) (f := xs) (j := (7 * N) + (2)) dL_law_1993 (x_kk rfl) rfl (ix_add rfl kn_2) (by omega) (by omega) ?_
    refine f_aload_n (M := mL_law) 1995 dL_law_1994 rfl rfl ?_
    refine f_iload (M := mL_law) 1997 dL_law_1995 rfl rfl ?_
    refine f_iconst (M := mL_law) 1998 dL_law_1997 ki_3 rfl ?_
    refine f_iadd (M := mL_law) 1999 dL_law_1998 rfl ?_
    refine e_iaf (M := mL_law) (w := Lw) (f := xs) (j := (7 * N) + (3)) dL_law_1999 (x_kk rfl) rfl (ix_add rfl kn_3) (by omega) (by omega) ?_
    refine f_aload_n (M := mL_law) 2001 dL_law_2000 rfl rfl ?_
    refine e_cS (M := mL_law) [_] (c + 3) (k + 18) dL_law_2001 pa_10261 cc_10261 rfl rfl rfl rfl rfl (show c + 3 ≤ 601024 by omega) (show k + 18 ≤ 7293034 by omega) rfl (h1) rfl ?_
    refine f_istore (M := mL_law) (ls' := [_, _, _, _, _, _, _, _]) 2006 dL_law_2004 rfl rfl rfl ?_
    refine f_aload_n (M := mL_law) 2007 dL_law_2006 rfl rfl ?_
    refine f_aload_n (M := mL_law) 2008 dL_law_2007 rfl rfl ?_
    refine f_iload (M := mL_law) 2010 dL_law_2008 rfl rfl ?_
    refine f_iconst (M := mL_law) 2011 dL_law_2010 ki_1 rfl ?_
    refine f_iadd (M := mL_law) 2012 dL_law_2011 rfl ?_
    refine e_iaf (M := mL_law) (w := Lw) (f := xs) (j := (7 * N) + (1)) dL_law_2012 (x_kk rfl) rfl (ix_add rfl kn_1) (by omega) (by omega) ?_
    refine f_aload_n (M := mL_law) 2014 dL_law_2013 rfl rfl ?_
    refine f_iload (M := mL_law) 2016 dL_law_2014 rfl rfl ?_
    refine f_iconst (M := mL_law) 2017 dL_law_2016 ki_2 rfl ?_
    refine f_iadd (M := mL_law) 2018 dL_law_2017 rfl ?_
    refine e_iaf (M := mL_law) (w := Lw) (f := xs) (j := (7 * N) + (2)) dL_law_2018 (x_kk rfl) rfl (ix_add rfl kn_2) (by omega) (by omega) ?_
    refine f_aload_n (M := mL_law) 2020 dL_law_2019 rfl rfl ?_
    refine f_iload (M := mL_law) 2022 dL_law_2020 rfl rfl ?_
    refine f_iconst (M := mL_law) 2023 dL_law_2022 ki_3 rfl ?_
    refine f_iadd (M := mL_law) 2024 dL_law_2023 rfl ?_
    refine e_iaf (M := mL_law) (w := Lw) (f := xs) (j := (7 * N) + (3)) dL_law_2024 (x_kk rfl) rfl (ix_add rfl kn_3) (by omega) (by omega) ?_
    refine e_cV (M := mL_law) [_] (c + 3) (k + 18) dL_law_2025 pa_10263 pb_10263 cc_10263 rfl rfl rfl rfl rfl (show c + 3 ≤ 601024 by omega) (show k + 18 ≤ 7293034 by omega) rfl (h2) rfl ?_
    refine f_istore (M := mL_law) (ls' := [_, _, _, _, _, _, _, _]) 2030 dL_law_2028 rfl rfl rfl ?_
    refine f_aload_n (M := mL_law) 2031 dL_law_2030 rfl rfl ?_
    refine e_cV (M := mL_law) [_] (c + 3) (k + 18) dL_law_2031 pa_10163 pb_10163 cc_10163 rfl rfl rfl rfl rfl (show c + 3 ≤ 601024 by omega) (show k + 18 ≤ 7293034 by omega) rfl (c_X9_thrown) rfl ?_
    refine f_iload (M := mL_law) 2036 dL_law_2034 rfl rfl ?_
    refine e_icmp_eqT (M := mL_law) 2041 dL_law_2036 rfl ht ?_
    refine f_iload (M := mL_law) 2043 dL_law_2041 rfl rfl ?_
    refine e_if_neT (M := mL_law) 2058 dL_law_2043 rfl z ?_
    refine f_goto (M := mL_law) 2888 dL_law_2058 rfl ?_
    refine f_iinc (M := mL_law) (ls' := [_, _, _, _, _, _, _, _]) 2891 dL_law_2888 ki_7 rfl rfl rfl rfl ?_
    refine f_goto (M := mL_law) 23 dL_law_2891 rfl ?_
    rw [show Int32.ofNat (7 * N) + 7 = Int32.ofNat (7 * (N + 1)) from ix_add rfl kn_7]; exact hr
theorem law_30 (hlen : 7 * N + 7 ≤ Lw) (hLw : Lw ≤ 3584) (T : y_T N I L R) (hN : N < 512) (hc : c ≤ 233 + 4 * N) (hk : k ≤ 14655 + 24 * N) (hx : xs (7 * N) &&& 63 = Int32.ofNat 30) : y_Nx Lw xs N I L R c k w5 w6 w7 := by
  have sm : y_OI N (Lw, xs) mL_voidLoad [.ref 0, .int (xs (7 * N + 1)), .ref 232] mX9_voidLoad [.ref 225, .int (xs (7 * N + 1))] I L R := sim_voidLoad (X := (Lw, xs)) T
  obtain ⟨k0, I1, L1, R1, v, I2, L2, h1, h2, ht, hv, T2⟩ := sm
  by_cases z : k0 = 0
  · refine ⟨I2, L2, R1, some (.int k0), some (.int v), w7, c + 2, k + 12, T2, by omega, by omega, fun r hr => ?_⟩
    refine e_tsI (j := 30) 2061 dL_law_40 rfl (by rw [hx]; decide) (by decide) rfl rfl ?_
    refine f_aload_n (M := mL_law) 2062 dL_law_2061 rfl rfl ?_
    refine f_aload_n (M := mL_law) 2063 dL_law_2062 rfl rfl ?_
    refine f_iload (M := mL_law) 2065 dL_law_2063 rfl rfl ?_
    refine f_iconst (M := mL_law) 2066 dL_law_2065 ki_1 rfl ?_
    refine f_iadd (M := mL_law) 2067 dL_law_2066 rfl ?_
    refine e_iaf (M := mL_law) (w := Lw) (f := xs) (j := (7 * N) + (1)) dL_law_2067 (x_kk rfl) rfl (ix_add rfl kn_1) (by omega) (by omega) ?_
    refine f_aload_n (M := mL_law) 2069 dL_law_2068 rfl rfl ?_
    refine e_cS (M := mL_law) [_] (c + 2) (k + 12) dL_law_2069 pa_10264 cc_10264 rfl rfl rfl rfl rfl (show c + 2 ≤ 601024 by omega) (show k + 12 ≤ 7293034 by omega) rfl (h1) rfl ?_
    refine f_istore (M := mL_law) (ls' := [_, _, _, _, _, _, _, _]) 2074 dL_law_2072 rfl rfl rfl ?_
    refine f_aload_n (M := mL_law) 2075 dL_law_2074 rfl rfl ?_
    refine f_aload_n (M := mL_law) 2076 dL_law_2075 rfl rfl ?_
    refine f_iload (M := mL_law) 2078 dL_law_2076 rfl rfl ?_
    refine f_iconst (M := mL_law) 2079 dL_law_2078 ki_1 rfl ?_
    refine f_iadd (M := mL_law) 2080 dL_law_2079 rfl ?_
    refine e_iaf (M := mL_law) (w := Lw) (f := xs) (j := (7 * N) + (1)) dL_law_2080 (x_kk rfl) rfl (ix_add rfl kn_1) (by omega) (by omega) ?_
    refine e_cV (M := mL_law) [_] (c + 2) (k + 12) dL_law_2081 pa_10266 pb_10266 cc_10266 rfl rfl rfl rfl rfl (show c + 2 ≤ 601024 by omega) (show k + 12 ≤ 7293034 by omega) rfl (h2) rfl ?_
    refine f_istore (M := mL_law) (ls' := [_, _, _, _, _, _, _, _]) 2086 dL_law_2084 rfl rfl rfl ?_
    refine f_aload_n (M := mL_law) 2087 dL_law_2086 rfl rfl ?_
    refine e_cV (M := mL_law) [_] (c + 2) (k + 12) dL_law_2087 pa_10163 pb_10163 cc_10163 rfl rfl rfl rfl rfl (show c + 2 ≤ 601024 by omega) (show k + 12 ≤ 7293034 by omega) rfl (c_X9_thrown) rfl ?_
    refine f_iload (M := mL_law) 2092 dL_law_2090 rfl rfl ?_
    refine e_icmp_eqT (M := mL_law) 2097 dL_law_2092 rfl ht ?_
    refine f_iload (M := mL_law) 2099 dL_law_2097 rfl rfl ?_
    refine e_if_neF (M := mL_law) 2114 dL_law_2099 rfl (fun q => q z) ?_
    refine f_aload_n (M := mL_law) 2103 dL_law_2102 rfl rfl ?_
    refine f_iconst (M := mL_law) 2104 dL_law_2103 ki_0 rfl ?_
    refine e_lld (M := mL_law) (w := 1) (j := 0) dL_law_2104 (x_kk rfl) rfl kn_0 (by omega) (by omega) ?_
    refine f_iload (M := mL_law) 2107 dL_law_2105 rfl rfl ?_
    refine f_i2l (M := mL_law) 2108 dL_law_2107 rfl ?_
    refine f_lcmp (M := mL_law) 2109 dL_law_2108 rfl ?_
    refine e_if_eqT (M := mL_law) 2114 dL_law_2109 rfl (lc_eq.mpr (hv z)) ?_
    refine f_goto (M := mL_law) 2888 dL_law_2114 rfl ?_
    refine f_iinc (M := mL_law) (ls' := [_, _, _, _, _, _, _, _]) 2891 dL_law_2888 ki_7 rfl rfl rfl rfl ?_
    refine f_goto (M := mL_law) 23 dL_law_2891 rfl ?_
    rw [show Int32.ofNat (7 * N) + 7 = Int32.ofNat (7 * (N + 1)) from ix_add rfl kn_7]; exact hr
  · refine ⟨I2, L2, R1, some (.int k0), some (.int v), w7, c + 2, k + 12, T2, by omega, by omega, fun r hr => ?_⟩
    refine e_tsI (j := 30) 2061 dL_law_40 rfl (by rw [hx]; decide) (by decide) rfl rfl ?_
    refine f_aload_n (M := mL_law) 2062 dL_law_2061 rfl rfl ?_
    refine f_aload_n (M := mL_law) 2063 dL_law_2062 rfl rfl ?_
    refine f_iload (M := mL_law) 2065 dL_law_2063 rfl rfl ?_
    refine f_iconst (M := mL_law) 2066 dL_law_2065 ki_1 rfl ?_
    refine f_iadd (M := mL_law) 2067 dL_law_2066 rfl ?_
    refine e_iaf (M := mL_law) (w := Lw) (f := xs) (j := (7 * N) + (1)) dL_law_2067 (x_kk rfl) rfl (ix_add rfl kn_1) (by omega) (by omega) ?_
    refine f_aload_n (M := mL_law) 2069 dL_law_2068 rfl rfl ?_
    refine e_cS (M := mL_law) [_] (c + 2) (k + 12) dL_law_2069 pa_10264 cc_10264 rfl rfl rfl rfl rfl (show c + 2 ≤ 601024 by omega) (show k + 12 ≤ 7293034 by omega) rfl (h1) rfl ?_
    refine f_istore (M := mL_law) (ls' := [_, _, _, _, _, _, _, _]) 2074 dL_law_2072 rfl rfl rfl ?_
    refine f_aload_n (M := mL_law) 2075 dL_law_2074 rfl rfl ?_
    refine f_aload_n (M := mL_law) 2076 dL_law_2075 rfl rfl ?_
    refine f_iload (M := mL_law) 2078 dL_law_2076 rfl rfl ?_
    refine f_iconst (M := mL_law) 2079 dL_law_2078 ki_1 rfl ?_
    refine f_iadd (M := mL_law) 2080 dL_law_2079 rfl ?_
    refine e_iaf (M := mL_law) (w := Lw) (f := xs) (j := (7 * N) + (1)) dL_law_2080 (x_kk rfl) rfl (ix_add rfl kn_1) (by omega) (by omega) ?_
    refine e_cV (M := mL_law) [_] (c + 2) (k + 12) dL_law_2081 pa_10266 pb_10266 cc_10266 rfl rfl rfl rfl rfl (show c + 2 ≤ 601024 by omega) (show k + 12 ≤ 7293034 by omega) rfl (h2) rfl ?_
    refine f_istore (M := mL_law) (ls' := [_, _, _, _, _, _, _, _]) 2086 dL_law_2084 rfl rfl rfl ?_
    refine f_aload_n (M := mL_law) 2087 dL_law_2086 rfl rfl ?_
    refine e_cV (M := mL_law) [_] (c + 2) (k + 12) dL_law_2087 pa_10163 pb_10163 cc_10163 rfl rfl rfl rfl rfl (show c + 2 ≤ 601024 by omega) (show k + 12 ≤ 7293034 by omega) rfl (c_X9_thrown) rfl ?_
    refine f_iload (M := mL_law) 2092 dL_law_2090 rfl rfl ?_
    refine e_icmp_eqT (M := mL_law) 2097 dL_law_2092 rfl ht ?_
    refine f_iload (M := mL_law) 2099 dL_law_2097 rfl rfl ?_
    refine e_if_neT (M := mL_law) 2114 dL_law_2099 rfl z ?_
    refine f_goto (M := mL_law) 2888 dL_law_2114 rfl ?_
    refine f_iinc (M := mL_law) (ls' := [_, _, _, _, _, _, _, _]) 2891 dL_law_2888 ki_7 rfl rfl rfl rfl ?_
    refine f_goto (M := mL_law) 23 dL_law_2891 rfl ?_
    rw [show Int32.ofNat (7 * N) + 7 = Int32.ofNat (7 * (N + 1)) from ix_add rfl kn_7]; exact hr
theorem law_31 (hlen : 7 * N + 7 ≤ Lw) (hLw : Lw ≤ 3584) (T : y_T N I L R) (hN : N < 512) (hc : c ≤ 233 + 4 * N) (hk : k ≤ 14655 + 24 * N) (hx : xs (7 * N) &&& 63 = Int32.ofNat 31) : y_Nx Lw xs N I L R c k w5 w6 w7 := by
  have sm : y_OI N (Lw, xs) mL_worstCheck [.ref 0, .ref 232] mX9_worstCheck [.ref 225] I L R := sim_worstCheck (X := (Lw, xs)) T
  obtain ⟨k0, I1, L1, R1, v, I2, L2, h1, h2, ht, hv, T2⟩ := sm
  by_cases z : k0 = 0
  · refine ⟨I2, L2, R1, some (.int k0), some (.int v), w7, c + 1, k + 6, T2, by omega, by omega, fun r hr => ?_⟩
    refine e_tsI (j := 31) 2117 dL_law_40 rfl (by rw [hx]; decide) (by decide) rfl rfl ?_
    refine f_aload_n (M := mL_law) 2118 dL_law_2117 rfl rfl ?_
    refine f_aload_n (M := mL_law) 2119 dL_law_2118 rfl rfl ?_
    refine e_cS (M := mL_law) [_] (c + 1) (k + 6) dL_law_2119 pa_10267 cc_10267 rfl rfl rfl rfl rfl (show c + 1 ≤ 601024 by omega) (show k + 6 ≤ 7293034 by omega) rfl (h1) rfl ?_
    refine f_istore (M := mL_law) (ls' := [_, _, _, _, _, _, _, _]) 2124 dL_law_2122 rfl rfl rfl ?_
    refine f_aload_n (M := mL_law) 2125 dL_law_2124 rfl rfl ?_
    refine e_cV (M := mL_law) [_] (c + 1) (k + 6) dL_law_2125 pa_10269 pb_10269 cc_10269 rfl rfl rfl rfl rfl (show c + 1 ≤ 601024 by omega) (show k + 6 ≤ 7293034 by omega) rfl (h2) rfl ?_
    refine f_istore (M := mL_law) (ls' := [_, _, _, _, _, _, _, _]) 2130 dL_law_2128 rfl rfl rfl ?_
    refine f_aload_n (M := mL_law) 2131 dL_law_2130 rfl rfl ?_
    refine e_cV (M := mL_law) [_] (c + 1) (k + 6) dL_law_2131 pa_10163 pb_10163 cc_10163 rfl rfl rfl rfl rfl (show c + 1 ≤ 601024 by omega) (show k + 6 ≤ 7293034 by omega) rfl (c_X9_thrown) rfl ?_
    refine f_iload (M := mL_law) 2136 dL_law_2134 rfl rfl ?_
    refine e_icmp_eqT (M := mL_law) 2141 dL_law_2136 rfl ht ?_
    refine f_iload (M := mL_law) 2143 dL_law_2141 rfl rfl ?_
    refine e_if_neF (M := mL_law) 2158 dL_law_2143 rfl (fun q => q z) ?_
    refine f_aload_n (M := mL_law) 2147 dL_law_2146 rfl rfl ?_
    refine f_iconst (M := mL_law) 2148 dL_law_2147 ki_0 rfl ?_
    refine e_lld (M := mL_law) (w := 1) (j := 0) dL_law_2148 (x_kk rfl) rfl kn_0 (by omega) (by omega) ?_
    refine f_iload (M := mL_law) 2151 dL_law_2149 rfl rfl ?_
    refine f_i2l (M := mL_law) 2152 dL_law_2151 rfl ?_
    refine f_lcmp (M := mL_law) 2153 dL_law_2152 rfl ?_
    refine e_if_eqT (M := mL_law) 2158 dL_law_2153 rfl (lc_eq.mpr (hv z)) ?_
    refine f_goto (M := mL_law) 2888 dL_law_2158 rfl ?_
    refine f_iinc (M := mL_law) (ls' := [_, _, _, _, _, _, _, _]) 2891 dL_law_2888 ki_7 rfl rfl rfl rfl ?_
    refine f_goto (M := mL_law) 23 dL_law_2891 rfl ?_
    rw [show Int32.ofNat (7 * N) + 7 = Int32.ofNat (7 * (N + 1)) from ix_add rfl kn_7]; exact hr
  · refine ⟨I2, L2, R1, some (.int k0), some (.int v), w7, c + 1, k + 6, T2, by omega, by omega, fun r hr => ?_⟩
    refine e_tsI (j := 31) 2117 dL_law_40 rfl (by rw [hx]; decide) (by decide) rfl rfl ?_
    refine f_aload_n (M := mL_law) 2118 dL_law_2117 rfl rfl ?_
    refine f_aload_n (M := mL_law) 2119 dL_law_2118 rfl rfl ?_
    refine e_cS (M := mL_law) [_] (c + 1) (k + 6) dL_law_2119 pa_10267 cc_10267 rfl rfl rfl rfl rfl (show c + 1 ≤ 601024 by omega) (show k + 6 ≤ 7293034 by omega) rfl (h1) rfl ?_
    refine f_istore (M := mL_law) (ls' := [_, _, _, _, _, _, _, _]) 2124 dL_law_2122 rfl rfl rfl ?_
    refine f_aload_n (M := mL_law) 2125 dL_law_2124 rfl rfl ?_
    refine e_cV (M := mL_law) [_] (c + 1) (k + 6) dL_law_2125 pa_10269 pb_10269 cc_10269 rfl rfl rfl rfl rfl (show c + 1 ≤ 601024 by omega) (show k + 6 ≤ 7293034 by omega) rfl (h2) rfl ?_
    refine f_istore (M := mL_law) (ls' := [_, _, _, _, _, _, _, _]) 2130 dL_law_2128 rfl rfl rfl ?_
    refine f_aload_n (M := mL_law) 2131 dL_law_2130 rfl rfl ?_
    refine e_cV (M := mL_law) [_] (c + 1) (k + 6) dL_law_2131 pa_10163 pb_10163 cc_10163 rfl rfl rfl rfl rfl (show c + 1 ≤ 601024 by omega) (show k + 6 ≤ 7293034 by omega) rfl (c_X9_thrown) rfl ?_
    refine f_iload (M := mL_law) 2136 dL_law_2134 rfl rfl ?_
    refine e_icmp_eqT (M := mL_law) 2141 dL_law_2136 rfl ht ?_
    refine f_iload (M := mL_law) 2143 dL_law_2141 rfl rfl ?_
    refine e_if_neT (M := mL_law) 2158 dL_law_2143 rfl z ?_
    refine f_goto (M := mL_law) 2888 dL_law_2158 rfl ?_
    refine f_iinc (M := mL_law) (ls' := [_, _, _, _, _, _, _, _]) 2891 dL_law_2888 ki_7 rfl rfl rfl rfl ?_
    refine f_goto (M := mL_law) 23 dL_law_2891 rfl ?_
    rw [show Int32.ofNat (7 * N) + 7 = Int32.ofNat (7 * (N + 1)) from ix_add rfl kn_7]; exact hr
theorem law_32 (hlen : 7 * N + 7 ≤ Lw) (hLw : Lw ≤ 3584) (T : y_T N I L R) (hN : N < 512) (hc : c ≤ 233 + 4 * N) (hk : k ≤ 14655 + 24 * N) (hx : xs (7 * N) &&& 63 = Int32.ofNat 32) : y_Nx Lw xs N I L R c k w5 w6 w7 := by
  have sm : y_OI N (Lw, xs) mL_scaled [.ref 0, .int (xs (7 * N + 1)), .int (xs (7 * N + 2)), .int (xs (7 * N + 3)), .ref 232] mX9_scaled [.ref 225, .int (xs (7 * N + 1)), .int (xs (7 * N + 2)), .int (xs (7 * N + 3))] I L R := sim_scaled (X := (Lw, xs)) T
  obtain ⟨k0, I1, L1, R1, v, I2, L2, h1, h2, ht, hv, T2⟩ := sm
  by_cases z : k0 = 0
  · refine ⟨I2, L2, R1, some (.int k0), some (.int v), w7, c + 3, k + 18, T2, by omega, by omega, fun r hr => ?_⟩
    refine e_tsI (j := 32) 2161 dL_law_40 rfl (by rw [hx]; decide) (by decide) rfl rfl ?_
    refine f_aload_n (M := mL_law) 2162 dL_law_2161 rfl rfl ?_
    refine f_aload_n (M := mL_law) 2163 dL_law_2162 rfl rfl ?_
    refine f_iload (M := mL_law) 2165 dL_law_2163 rfl rfl ?_
    refine f_iconst (M := mL_law) 2166 dL_law_2165 ki_1 rfl ?_
    refine f_iadd (M := mL_law) 2167 dL_law_2166 rfl ?_
    refine e_iaf (M := mL_law) (w := Lw) (f := xs) (j := (7 * N) + (1)) dL_law_2167 (x_kk rfl) rfl (ix_add rfl kn_1) (by omega) (by omega) ?_
    refine f_aload_n (M := mL_law) 2169 dL_law_2168 rfl rfl ?_
    refine f_iload (M := mL_law) 2171 dL_law_2169 rfl rfl ?_
    refine f_iconst (M := mL_law) 2172 dL_law_2171 ki_2 rfl ?_
    refine f_iadd (M := mL_law) 2173 dL_law_2172 rfl ?_
    refine e_iaf (M := mL_law) (w := Lw) (f := xs) (j := (7 * N) + (2)) dL_law_2173 (x_kk rfl) rfl (ix_add rfl kn_2) (by omega) (by omega) ?_
    refine f_aload_n (M := mL_law) 2175 dL_law_2174 rfl rfl ?_
    refine f_iload (M := mL_law) 2177 dL_law_2175 rfl rfl ?_
    refine f_iconst (M := mL_law) 2178 dL_law_2177 ki_3 rfl ?_
    refine f_iadd (M := mL_law) 2179 dL_law_2178 rfl ?_
    refine e_iaf (M := mL_law) (w := Lw) (f := xs) (j := (7 * N) + (3)) dL_law_2179 (x_kk rfl) rfl (ix_add rfl kn_3) (by omega) (by omega) ?_
    refine f_aload_n (M := mL_law) 2181 dL_law_2180 rfl rfl ?_
    refine e_cS (M := mL_law) [_] (c + 3) (k + 18) dL_law_2181 pa_10270 cc_10270 rfl rfl rfl rfl rfl (show c + 3 ≤ 601024 by omega) (show k + 18 ≤ 7293034 by omega) rfl (h1) rfl ?_
    refine f_istore (M := mL_law) (ls' := [_, _, _, _, _, _, _, _]) 2186 dL_law_2184 rfl rfl rfl ?_
    refine f_aload_n (M := mL_law) 2187 dL_law_2186 rfl rfl ?_
    refine f_aload_n (M := mL_law) 2188 dL_law_2187 rfl rfl ?_
    refine f_iload (M := mL_law) 2190 dL_law_2188 rfl rfl ?_
    refine f_iconst (M := mL_law) 2191 dL_law_2190 ki_1 rfl ?_
    refine f_iadd (M := mL_law) 2192 dL_law_2191 rfl ?_
    refine e_iaf (M := mL_law) (w := Lw) (f := xs) (j := (7 * N) + (1)) dL_law_2192 (x_kk rfl) rfl (ix_add rfl kn_1) (by omega) (by omega) ?_
    refine f_aload_n (M := mL_law) 2194 dL_law_2193 rfl rfl ?_
    refine f_iload (M := mL_law) 2196 dL_law_2194 rfl rfl ?_
    refine f_iconst (M := mL_law) 2197 dL_law_2196 ki_2 rfl ?_
    refine f_iadd (M := mL_law) 2198 dL_law_2197 rfl ?_
    refine e_iaf (M := mL_law) (w := Lw) (f := xs) (j := (7 * N) + (2)) dL_law_2198 (x_kk rfl) rfl (ix_add rfl kn_2) (by omega) (by omega) ?_
    refine f_aload_n (M := mL_law) 2200 dL_law_2199 rfl rfl ?_
    refine f_iload (M := mL_law) 2202 dL_law_2200 rfl rfl ?_
    refine f_iconst (M := mL_law) 2203 dL_law_2202 ki_3 rfl ?_
    refine f_iadd (M := mL_law) 2204 dL_law_2203 rfl ?_
    refine e_iaf (M := mL_law) (w := Lw) (f := xs) (j := (7 * N) + (3)) dL_law_2204 (x_kk rfl) rfl (ix_add rfl kn_3) (by omega) (by omega) ?_
    refine e_cV (M := mL_law) [_] (c + 3) (k + 18) dL_law_2205 pa_10272 pb_10272 cc_10272 rfl rfl rfl rfl rfl (show c + 3 ≤ 601024 by omega) (show k + 18 ≤ 7293034 by omega) rfl (h2) rfl ?_
    refine f_istore (M := mL_law) (ls' := [_, _, _, _, _, _, _, _]) 2210 dL_law_2208 rfl rfl rfl ?_
    refine f_aload_n (M := mL_law) 2211 dL_law_2210 rfl rfl ?_
    refine e_cV (M := mL_law) [_] (c + 3) (k + 18) dL_law_2211 pa_10163 pb_10163 cc_10163 rfl rfl rfl rfl rfl (show c + 3 ≤ 601024 by omega) (show k + 18 ≤ 7293034 by omega) rfl (c_X9_thrown) rfl ?_
    refine f_iload (M := mL_law) 2216 dL_law_2214 rfl rfl ?_
    refine e_icmp_eqT (M := mL_law) 2221 dL_law_2216 rfl ht ?_
    refine f_iload (M := mL_law) 2223 dL_law_2221 rfl rfl ?_
    refine e_if_neF (M := mL_law) 2238 dL_law_2223 rfl (fun q => q z) ?_
    refine f_aload_n (M := mL_law) 2227 dL_law_2226 rfl rfl ?_
    refine f_iconst (M := mL_law) 2228 dL_law_2227 ki_0 rfl ?_
    refine e_lld (M := mL_law) (w := 1) (j := 0) dL_law_2228 (x_kk rfl) rfl kn_0 (by omega) (by omega) ?_
    refine f_iload (M := mL_law) 2231 dL_law_2229 rfl rfl ?_
    refine f_i2l (M := mL_law) 2232 dL_law_2231 rfl ?_
    refine f_lcmp (M := mL_law) 2233 dL_law_2232 rfl ?_
    refine e_if_eqT (M := mL_law) 2238 dL_law_2233 rfl (lc_eq.mpr (hv z)) ?_
    refine f_goto (M := mL_law) 2888 dL_law_2238 rfl ?_
    refine f_iinc (M := mL_law) (ls' := [_, _, _, _, _, _, _, _]) 2891 dL_law_2888 ki_7 rfl rfl rfl rfl ?_
    refine f_goto (M := mL_law) 23 dL_law_2891 rfl ?_
    rw [show Int32.ofNat (7 * N) + 7 = Int32.ofNat (7 * (N + 1)) from ix_add rfl kn_7]; exact hr
  · refine ⟨I2, L2, R1, some (.int k0), some (.int v), w7, c + 3, k + 18, T2, by omega, by omega, fun r hr => ?_⟩
    refine e_tsI (j := 32) 2161 dL_law_40 rfl (by rw [hx]; decide) (by decide) rfl rfl ?_
    refine f_aload_n (M := mL_law) 2162 dL_law_2161 rfl rfl ?_
    refine f_aload_n (M := mL_law) 2163 dL_law_2162 rfl rfl ?_
    refine f_iload (M := mL_law) 2165 dL_law_2163 rfl rfl ?_
    refine f_iconst (M := mL_law) 2166 dL_law_2165 ki_1 rfl ?_
    refine f_iadd (M := mL_law) 2167 dL_law_2166 rfl ?_
    refine e_iaf (M := mL_law) (w := Lw) (f := xs) (j := (7 * N) + (1)) dL_law_2167 (x_kk rfl) rfl (ix_add rfl kn_1) (by omega) (by omega) ?_
    refine f_aload_n (M := mL_law) 2169 dL_law_2168 rfl rfl ?_
    refine f_iload (M := mL_law) 2171 dL_law_2169 rfl rfl ?_
    refine f_iconst (M := mL_law) 2172 dL_law_2171 ki_2 rfl ?_
    refine f_iadd (M := mL_law) 2173 dL_law_2172 rfl ?_
    refine e_iaf (M := mL_law) (w := Lw) (f := xs) (j := (7 * N) + (2)) dL_law_2173 (x_kk rfl) rfl (ix_add rfl kn_2) (by omega) (by omega) ?_
    refine f_aload_n (M := mL_law) 2175 dL_law_2174 rfl rfl ?_
    refine f_iload (M := mL_law) 2177 dL_law_2175 rfl rfl ?_
    refine f_iconst (M := mL_law) 2178 dL_law_2177 ki_3 rfl ?_
    refine f_iadd (M := mL_law) 2179 dL_law_2178 rfl ?_
    refine e_iaf (M := mL_law) (w := Lw) (f := xs) (j := (7 * N) + (3)) dL_law_2179 (x_kk rfl) rfl (ix_add rfl kn_3) (by omega) (by omega) ?_
    refine f_aload_n (M := mL_law) 2181 dL_law_2180 rfl rfl ?_
    refine e_cS (M := mL_law) [_] (c + 3) (k + 18) dL_law_2181 pa_10270 cc_10270 rfl rfl rfl rfl rfl (show c + 3 ≤ 601024 by omega) (show k + 18 ≤ 7293034 by omega) rfl (h1) rfl ?_
    refine f_istore (M := mL_law) (ls' := [_, _, _, _, _, _, _, _]) 2186 dL_law_2184 rfl rfl rfl ?_
    refine f_aload_n (M := mL_law) 2187 dL_law_2186 rfl rfl ?_
    refine f_aload_n (M := mL_law) 2188 dL_law_2187 rfl rfl ?_
    refine f_iload (M := mL_law) 2190 dL_law_2188 rfl rfl ?_
    refine f_iconst (M := mL_law) 2191 dL_law_2190 ki_1 rfl ?_
    refine f_iadd (M := mL_law) 2192 dL_law_2191 rfl ?_
    refine e_iaf (M := mL_law) (w := Lw) (f := xs) (j := (7 * N) + (1)) dL_law_2192 (x_kk rfl) rfl (ix_add rfl kn_1) (by omega) (by omega) ?_
    refine f_aload_n (M := mL_law) 2194 dL_law_2193 rfl rfl ?_
    refine f_iload (M := mL_law) 2196 dL_law_2194 rfl rfl ?_
    refine f_iconst (M := mL_law) 2197 dL_law_2196 ki_2 rfl ?_
    refine f_iadd (M := mL_law) 2198 dL_law_2197 rfl ?_
    refine e_iaf (M := mL_law) (w := Lw) (f := xs) (j := (7 * N) + (2)) dL_law_2198 (x_kk rfl) rfl (ix_add rfl kn_2) (by omega) (by omega) ?_
    refine f_aload_n (M := mL_law) 2200 dL_law_2199 rfl rfl ?_
    refine f_iload (M := mL_law) 2202 dL_law_2200 rfl rfl ?_
    refine f_iconst (M := mL_law) 2203 dL_law_2202 ki_3 rfl ?_
    refine f_iadd (M := mL_law) 2204 dL_law_2203 rfl ?_
    refine e_iaf (M := mL_law) (w := Lw) (f := xs) (j := (7 * N) + (3)) dL_law_2204 (x_kk rfl) rfl (ix_add rfl kn_3) (by omega) (by omega) ?_
    refine e_cV (M := mL_law) [_] (c + 3) (k + 18) dL_law_2205 pa_10272 pb_10272 cc_10272 rfl rfl rfl rfl rfl (show c + 3 ≤ 601024 by omega) (show k + 18 ≤ 7293034 by omega) rfl (h2) rfl ?_
    refine f_istore (M := mL_law) (ls' := [_, _, _, _, _, _, _, _]) 2210 dL_law_2208 rfl rfl rfl ?_
    refine f_aload_n (M := mL_law) 2211 dL_law_2210 rfl rfl ?_
    refine e_cV (M := mL_law) [_] (c + 3) (k + 18) dL_law_2211 pa_10163 pb_10163 cc_10163 rfl rfl rfl rfl rfl (show c + 3 ≤ 601024 by omega) (show k + 18 ≤ 7293034 by omega) rfl (c_X9_thrown) rfl ?_
    refine f_iload (M := mL_law) 2216 dL_law_2214 rfl rfl ?_
    refine e_icmp_eqT (M := mL_law) 2221 dL_law_2216 rfl ht ?_
    refine f_iload (M := mL_law) 2223 dL_law_2221 rfl rfl ?_
    refine e_if_neT (M := mL_law) 2238 dL_law_2223 rfl z ?_
    refine f_goto (M := mL_law) 2888 dL_law_2238 rfl ?_
    refine f_iinc (M := mL_law) (ls' := [_, _, _, _, _, _, _, _]) 2891 dL_law_2888 ki_7 rfl rfl rfl rfl ?_
    refine f_goto (M := mL_law) 23 dL_law_2891 rfl ?_
    rw [show Int32.ofNat (7 * N) + 7 = Int32.ofNat (7 * (N + 1)) from ix_add rfl kn_7]; exact hr
theorem law_33 (hlen : 7 * N + 7 ≤ Lw) (hLw : Lw ≤ 3584) (T : y_T N I L R) (hN : N < 512) (hc : c ≤ 233 + 4 * N) (hk : k ≤ 14655 + 24 * N) (hx : xs (7 * N) &&& 63 = Int32.ofNat 33) : y_Nx Lw xs N I L R c k w5 w6 w7 := by
  by_cases hb : xs (7 * N + 1) = 0
  · skip
    have sm : y_OL N (Lw, xs) mL_cutShare [.ref 0, .int 0, .ref 232] mX9_cutShare [.ref 225, .int 0] I L R := sim_cutShare (X := (Lw, xs)) T
    obtain ⟨k0, I1, L1, R1, v, I2, L2, h1, h2, ht, hv, T2⟩ := sm
    by_cases z : k0 = 0
    · refine ⟨I2, L2, R1, some (.int k0), some (.long v), none, c + 1, k + 6, T2, by omega, by omega, fun r hr => ?_⟩
      refine e_tsI (j := 33) 2241 dL_law_40 rfl (by rw [hx]; decide) (by decide) rfl rfl ?_
      refine f_aload_n (M := mL_law) 2242 dL_law_2241 rfl rfl ?_
      refine f_aload_n (M := mL_law) 2243 dL_law_2242 rfl rfl ?_
      refine f_iload (M := mL_law) 2245 dL_law_2243 rfl rfl ?_
      refine f_iconst (M := mL_law) 2246 dL_law_2245 ki_1 rfl ?_
      refine f_iadd (M := mL_law) 2247 dL_law_2246 rfl ?_
      refine e_iaf (M := mL_law) (w := Lw) (f := xs) (j := (7 * N) + (1)) dL_law_2247 (x_kk rfl) rfl (ix_add rfl kn_1) (by omega) (by omega) ?_
      refine e_if_eqT (M := mL_law) 2255 dL_law_2248 rfl hb ?_
      refine f_iconst (M := mL_law) 2256 dL_law_2255 ki_0 rfl ?_
      refine f_aload_n (M := mL_law) 2257 dL_law_2256 rfl rfl ?_
      refine e_cS (M := mL_law) [_] (c + 1) (k + 6) dL_law_2257 pa_10273 cc_10273 rfl rfl rfl rfl rfl (show c + 1 ≤ 601024 by omega) (show k + 6 ≤ 7293034 by omega) rfl (h1) rfl ?_
      refine f_istore (M := mL_law) (ls' := [_, _, _, _, _, _, _, _]) 2262 dL_law_2260 rfl rfl rfl ?_
      refine f_aload_n (M := mL_law) 2263 dL_law_2262 rfl rfl ?_
      refine f_aload_n (M := mL_law) 2264 dL_law_2263 rfl rfl ?_
      refine f_iload (M := mL_law) 2266 dL_law_2264 rfl rfl ?_
      refine f_iconst (M := mL_law) 2267 dL_law_2266 ki_1 rfl ?_
      refine f_iadd (M := mL_law) 2268 dL_law_2267 rfl ?_
      refine e_iaf (M := mL_law) (w := Lw) (f := xs) (j := (7 * N) + (1)) dL_law_2268 (x_kk rfl) rfl (ix_add rfl kn_1) (by omega) (by omega) ?_
      refine e_if_eqT (M := mL_law) 2276 dL_law_2269 rfl hb ?_
      refine f_iconst (M := mL_law) 2277 dL_law_2276 ki_0 rfl ?_
      refine e_cV (M := mL_law) [_] (c + 1) (k + 6) dL_law_2277 pa_10276 pb_10276 cc_10276 rfl rfl rfl rfl rfl (show c + 1 ≤ 601024 by omega) (show k + 6 ≤ 7293034 by omega) rfl (h2) rfl ?_
      refine f_lstore (M := mL_law) (ls' := [_, _, _, _, _, _, _, _]) 2282 dL_law_2280 rfl rfl rfl ?_
      refine f_aload_n (M := mL_law) 2283 dL_law_2282 rfl rfl ?_
      refine e_cV (M := mL_law) [_] (c + 1) (k + 6) dL_law_2283 pa_10163 pb_10163 cc_10163 rfl rfl rfl rfl rfl (show c + 1 ≤ 601024 by omega) (show k + 6 ≤ 7293034 by omega) rfl (c_X9_thrown) rfl ?_
      refine f_iload (M := mL_law) 2288 dL_law_2286 rfl rfl ?_
      refine e_icmp_eqT (M := mL_law) 2293 dL_law_2288 rfl ht ?_
      refine f_iload (M := mL_law) 2295 dL_law_2293 rfl rfl ?_
      refine e_if_neF (M := mL_law) 2309 dL_law_2295 rfl (fun q => q z) ?_
      refine f_aload_n (M := mL_law) 2299 dL_law_2298 rfl rfl ?_
      refine f_iconst (M := mL_law) 2300 dL_law_2299 ki_0 rfl ?_
      refine e_lld (M := mL_law) (w := 1) (j := 0) dL_law_2300 (x_kk rfl) rfl kn_0 (by omega) (by omega) ?_
      refine f_lload (M := mL_law) 2303 dL_law_2301 rfl rfl ?_
      refine f_lcmp (M := mL_law) 2304 dL_law_2303 rfl ?_
      refine e_if_eqT (M := mL_law) 2309 dL_law_2304 rfl (lc_eq.mpr (hv z)) ?_
      refine f_goto (M := mL_law) 2888 dL_law_2309 rfl ?_
      refine f_iinc (M := mL_law) (ls' := [_, _, _, _, _, _, _, _]) 2891 dL_law_2888 ki_7 rfl rfl rfl rfl ?_
      refine f_goto (M := mL_law) 23 dL_law_2891 rfl ?_
      rw [show Int32.ofNat (7 * N) + 7 = Int32.ofNat (7 * (N + 1)) from ix_add rfl kn_7]; exact hr
    · refine ⟨I2, L2, R1, some (.int k0), some (.long v), none, c + 1, k + 6, T2, by omega, by omega, fun r hr => ?_⟩
      refine e_tsI (j := 33) 2241 dL_law_40 rfl (by rw [hx]; decide) (by decide) rfl rfl ?_
      refine f_aload_n (M := mL_law) 2242 dL_law_2241 rfl rfl ?_
      refine f_aload_n (M := mL_law) 2243 dL_law_2242 rfl rfl ?_
      refine f_iload (M := mL_law) 2245 dL_law_2243 rfl rfl ?_
      refine f_iconst (M := mL_law) 2246 dL_law_2245 ki_1 rfl ?_
      refine f_iadd (M := mL_law) 2247 dL_law_2246 rfl ?_
      refine e_iaf (M := mL_law) (w := Lw) (f := xs) (j := (7 * N) + (1)) dL_law_2247 (x_kk rfl) rfl (ix_add rfl kn_1) (by omega) (by omega) ?_
      refine e_if_eqT (M := mL_law) 2255 dL_law_2248 rfl hb ?_
      refine f_iconst (M := mL_law) 2256 dL_law_2255 ki_0 rfl ?_
      refine f_aload_n (M := mL_law) 2257 dL_law_2256 rfl rfl ?_
      refine e_cS (M := mL_law) [_] (c + 1) (k + 6) dL_law_2257 pa_10273 cc_10273 rfl rfl rfl rfl rfl (show c + 1 ≤ 601024 by omega) (show k + 6 ≤ 7293034 by omega) rfl (h1) rfl ?_
      refine f_istore (M := mL_law) (ls' := [_, _, _, _, _, _, _, _]) 2262 dL_law_2260 rfl rfl rfl ?_
      refine f_aload_n (M := mL_law) 2263 dL_law_2262 rfl rfl ?_
      refine f_aload_n (M := mL_law) 2264 dL_law_2263 rfl rfl ?_
      refine f_iload (M := mL_law) 2266 dL_law_2264 rfl rfl ?_
      refine f_iconst (M := mL_law) 2267 dL_law_2266 ki_1 rfl ?_
      refine f_iadd (M := mL_law) 2268 dL_law_2267 rfl ?_
      refine e_iaf (M := mL_law) (w := Lw) (f := xs) (j := (7 * N) + (1)) dL_law_2268 (x_kk rfl) rfl (ix_add rfl kn_1) (by omega) (by omega) ?_
      refine e_if_eqT (M := mL_law) 2276 dL_law_2269 rfl hb ?_
      refine f_iconst (M := mL_law) 2277 dL_law_2276 ki_0 rfl ?_
      refine e_cV (M := mL_law) [_] (c + 1) (k + 6) dL_law_2277 pa_10276 pb_10276 cc_10276 rfl rfl rfl rfl rfl (show c + 1 ≤ 601024 by omega) (show k + 6 ≤ 7293034 by omega) rfl (h2) rfl ?_
      refine f_lstore (M := mL_law) (ls' := [_, _, _, _, _, _, _, _]) 2282 dL_law_2280 rfl rfl rfl ?_
      refine f_aload_n (M := mL_law) 2283 dL_law_2282 rfl rfl ?_
      refine e_cV (M := mL_law) [_] (c + 1) (k + 6) dL_law_2283 pa_10163 pb_10163 cc_10163 rfl rfl rfl rfl rfl (show c + 1 ≤ 601024 by omega) (show k + 6 ≤ 7293034 by omega) rfl (c_X9_thrown) rfl ?_
      refine f_iload (M := mL_law) 2288 dL_law_2286 rfl rfl ?_
      refine e_icmp_eqT (M := mL_law) 2293 dL_law_2288 rfl ht ?_
      refine f_iload (M := mL_law) 2295 dL_law_2293 rfl rfl ?_
      refine e_if_neT (M := mL_law) 2309 dL_law_2295 rfl z ?_
      refine f_goto (M := mL_law) 2888 dL_law_2309 rfl ?_
      refine f_iinc (M := mL_law) (ls' := [_, _, _, _, _, _, _, _]) 2891 dL_law_2888 ki_7 rfl rfl rfl rfl ?_
      refine f_goto (M := mL_law) 23 dL_law_2891 rfl ?_
      rw [show Int32.ofNat (7 * N) + 7 = Int32.ofNat (7 * (N + 1)) from ix_add rfl kn_7]; exact hr
  · skip
    have sm : y_OL N (Lw, xs) mL_cutShare [.ref 0, .int 1, .ref 232] mX9_cutShare [.ref 225, .int 1] I L R := sim_cutShare (X := (Lw, xs)) T
    obtain ⟨k0, I1, L1, R1, v, I2, L2, h1, h2, ht, hv, T2⟩ := sm
    by_cases z : k0 = 0
    · refine ⟨I2, L2, R1, some (.int k0), some (.long v), none, c + 1, k + 6, T2, by omega, by omega, fun r hr => ?_⟩
      refine e_tsI (j := 33) 2241 dL_law_40 rfl (by rw [hx]; decide) (by decide) rfl rfl ?_
      refine f_aload_n (M := mL_law) 2242 dL_law_2241 rfl rfl ?_
      refine f_aload_n (M := mL_law) 2243 dL_law_2242 rfl rfl ?_
      refine f_iload (M := mL_law) 2245 dL_law_2243 rfl rfl ?_
      refine f_iconst (M := mL_law) 2246 dL_law_2245 ki_1 rfl ?_
      refine f_iadd (M := mL_law) 2247 dL_law_2246 rfl ?_
      refine e_iaf (M := mL_law) (w := Lw) (f := xs) (j := (7 * N) + (1)) dL_law_2247 (x_kk rfl) rfl (ix_add rfl kn_1) (by omega) (by omega) ?_
      refine e_if_eqF (M := mL_law) 2255 dL_law_2248 rfl hb ?_
      refine f_iconst (M := mL_law) 2252 dL_law_2251 ki_1 rfl ?_
      refine f_goto (M := mL_law) 2256 dL_law_2252 rfl ?_
      refine f_aload_n (M := mL_law) 2257 dL_law_2256 rfl rfl ?_
      refine e_cS (M := mL_law) [_] (c + 1) (k + 6) dL_law_2257 pa_10273 cc_10273 rfl rfl rfl rfl rfl (show c + 1 ≤ 601024 by omega) (show k + 6 ≤ 7293034 by omega) rfl (h1) rfl ?_
      refine f_istore (M := mL_law) (ls' := [_, _, _, _, _, _, _, _]) 2262 dL_law_2260 rfl rfl rfl ?_
      refine f_aload_n (M := mL_law) 2263 dL_law_2262 rfl rfl ?_
      refine f_aload_n (M := mL_law) 2264 dL_law_2263 rfl rfl ?_
      refine f_iload (M := mL_law) 2266 dL_law_2264 rfl rfl ?_
      refine f_iconst (M := mL_law) 2267 dL_law_2266 ki_1 rfl ?_
      refine f_iadd (M := mL_law) 2268 dL_law_2267 rfl ?_
      refine e_iaf (M := mL_law) (w := Lw) (f := xs) (j := (7 * N) + (1)) dL_law_2268 (x_kk rfl) rfl (ix_add rfl kn_1) (by omega) (by omega) ?_
      refine e_if_eqF (M := mL_law) 2276 dL_law_2269 rfl hb ?_
      refine f_iconst (M := mL_law) 2273 dL_law_2272 ki_1 rfl ?_
      refine f_goto (M := mL_law) 2277 dL_law_2273 rfl ?_
      refine e_cV (M := mL_law) [_] (c + 1) (k + 6) dL_law_2277 pa_10276 pb_10276 cc_10276 rfl rfl rfl rfl rfl (show c + 1 ≤ 601024 by omega) (show k + 6 ≤ 7293034 by omega) rfl (h2) rfl ?_
      refine f_lstore (M := mL_law) (ls' := [_, _, _, _, _, _, _, _]) 2282 dL_law_2280 rfl rfl rfl ?_
      refine f_aload_n (M := mL_law) 2283 dL_law_2282 rfl rfl ?_
      refine e_cV (M := mL_law) [_] (c + 1) (k + 6) dL_law_2283 pa_10163 pb_10163 cc_10163 rfl rfl rfl rfl rfl (show c + 1 ≤ 601024 by omega) (show k + 6 ≤ 7293034 by omega) rfl (c_X9_thrown) rfl ?_
      refine f_iload (M := mL_law) 2288 dL_law_2286 rfl rfl ?_
      refine e_icmp_eqT (M := mL_law) 2293 dL_law_2288 rfl ht ?_
      refine f_iload (M := mL_law) 2295 dL_law_2293 rfl rfl ?_
      refine e_if_neF (M := mL_law) 2309 dL_law_2295 rfl (fun q => q z) ?_
      refine f_aload_n (M := mL_law) 2299 dL_law_2298 rfl rfl ?_
      refine f_iconst (M := mL_law) 2300 dL_law_2299 ki_0 rfl ?_
      refine e_lld (M := mL_law) (w := 1) (j := 0) dL_law_2300 (x_kk rfl) rfl kn_0 (by omega) (by omega) ?_
      refine f_lload (M := mL_law) 2303 dL_law_2301 rfl rfl ?_
      refine f_lcmp (M := mL_law) 2304 dL_law_2303 rfl ?_
      refine e_if_eqT (M := mL_law) 2309 dL_law_2304 rfl (lc_eq.mpr (hv z)) ?_
      refine f_goto (M := mL_law) 2888 dL_law_2309 rfl ?_
      refine f_iinc (M := mL_law) (ls' := [_, _, _, _, _, _, _, _]) 2891 dL_law_2888 ki_7 rfl rfl rfl rfl ?_
      refine f_goto (M := mL_law) 23 dL_law_2891 rfl ?_
      rw [show Int32.ofNat (7 * N) + 7 = Int32.ofNat (7 * (N + 1)) from ix_add rfl kn_7]; exact hr
    · refine ⟨I2, L2, R1, some (.int k0), some (.long v), none, c + 1, k + 6, T2, by omega, by omega, fun r hr => ?_⟩
      refine e_tsI (j := 33) 2241 dL_law_40 rfl (by rw [hx]; decide) (by decide) rfl rfl ?_
      refine f_aload_n (M := mL_law) 2242 dL_law_2241 rfl rfl ?_
      refine f_aload_n (M := mL_law) 2243 dL_law_2242 rfl rfl ?_
      refine f_iload (M := mL_law) 2245 dL_law_2243 rfl rfl ?_
      refine f_iconst (M := mL_law) 2246 dL_law_2245 ki_1 rfl ?_
      refine f_iadd (M := mL_law) 2247 dL_law_2246 rfl ?_
      refine e_iaf (M := mL_law) (w := Lw) (f := xs) (j := (7 * N) + (1)) dL_law_2247 (x_kk rfl) rfl (ix_add rfl kn_1) (by omega) (by omega) ?_
      refine e_if_eqF (M := mL_law) 2255 dL_law_2248 rfl hb ?_
      refine f_iconst (M := mL_law) 2252 dL_law_2251 ki_1 rfl ?_
      refine f_goto (M := mL_law) 2256 dL_law_2252 rfl ?_
      refine f_aload_n (M := mL_law) 2257 dL_law_2256 rfl rfl ?_
      refine e_cS (M := mL_law) [_] (c + 1) (k + 6) dL_law_2257 pa_10273 cc_10273 rfl rfl rfl rfl rfl (show c + 1 ≤ 601024 by omega) (show k + 6 ≤ 7293034 by omega) rfl (h1) rfl ?_
      refine f_istore (M := mL_law) (ls' := [_, _, _, _, _, _, _, _]) 2262 dL_law_2260 rfl rfl rfl ?_
      refine f_aload_n (M := mL_law) 2263 dL_law_2262 rfl rfl ?_
      refine f_aload_n (M := mL_law) 2264 dL_law_2263 rfl rfl ?_
      refine f_iload (M := mL_law) 2266 dL_law_2264 rfl rfl ?_
      refine f_iconst (M := mL_law) 2267 dL_law_2266 ki_1 rfl ?_
      refine f_iadd (M := mL_law) 2268 dL_law_2267 rfl ?_
      refine e_iaf (M := mL_law) (w := Lw) (f := xs) (j := (7 * N) + (1)) dL_law_2268 (x_kk rfl) rfl (ix_add rfl kn_1) (by omega) (by omega) ?_
      refine e_if_eqF (M := mL_law) 2276 dL_law_2269 rfl hb ?_
      refine f_iconst (M := mL_law) 2273 dL_law_2272 ki_1 rfl ?_
      refine f_goto (M := mL_law) 2277 dL_law_2273 rfl ?_
      refine e_cV (M := mL_law) [_] (c + 1) (k + 6) dL_law_2277 pa_10276 pb_10276 cc_10276 rfl rfl rfl rfl rfl (show c + 1 ≤ 601024 by omega) (show k + 6 ≤ 7293034 by omega) rfl (h2) rfl ?_
      refine f_lstore (M := mL_law) (ls' := [_, _, _, _, _, _, _, _]) 2282 dL_law_2280 rfl rfl rfl ?_
      refine f_aload_n (M := mL_law) 2283 dL_law_2282 rfl rfl ?_
      refine e_cV (M := mL_law) [_] (c + 1) (k + 6) dL_law_2283 pa_10163 pb_10163 cc_10163 rfl rfl rfl rfl rfl (show c + 1 ≤ 601024 by omega) (show k + 6 ≤ 7293034 by omega) rfl (c_X9_thrown) rfl ?_
      refine f_iload (M := mL_law) 2288 dL_law_2286 rfl rfl ?_
      refine e_icmp_eqT (M := mL_law) 2293 dL_law_2288 rfl ht ?_
      refine f_iload (M := mL_law) 2295 dL_law_2293 rfl rfl ?_
      refine e_if_neT (M := mL_law) 2309 dL_law_2295 rfl z ?_
      refine f_goto (M := mL_law) 2888 dL_law_2309 rfl ?_
      refine f_iinc (M := mL_law) (ls' := [_, _, _, _, _, _, _, _]) 2891 dL_law_2888 ki_7 rfl rfl rfl rfl ?_
      refine f_goto (M := mL_law) 23 dL_law_2891 rfl ?_
      rw [show Int32.ofNat (7 * N) + 7 = Int32.ofNat (7 * (N + 1)) from ix_add rfl kn_7]; exact hr
theorem law_34 (hlen : 7 * N + 7 ≤ Lw) (hLw : Lw ≤ 3584) (T : y_T N I L R) (hN : N < 512) (hc : c ≤ 233 + 4 * N) (hk : k ≤ 14655 + 24 * N) (hx : xs (7 * N) &&& 63 = Int32.ofNat 34) : y_Nx Lw xs N I L R c k w5 w6 w7 := by
  have sm : y_OI N (Lw, xs) mL_net [.ref 0, .int (xs (7 * N + 1)), .ref 232] mX9_net [.ref 225, .int (xs (7 * N + 1))] I L R := sim_net (X := (Lw, xs)) T
  obtain ⟨k0, I1, L1, R1, v, I2, L2, h1, h2, ht, hv, T2⟩ := sm
  by_cases z : k0 = 0
  · refine ⟨I2, L2, R1, some (.int k0), some (.int v), w7, c + 1, k + 6, T2, by omega, by omega, fun r hr => ?_⟩
    refine e_tsI (j := 34) 2312 dL_law_40 rfl (by rw [hx]; decide) (by decide) rfl rfl ?_
    refine f_aload_n (M := mL_law) 2313 dL_law_2312 rfl rfl ?_
    refine f_aload_n (M := mL_law) 2314 dL_law_2313 rfl rfl ?_
    refine f_iload (M := mL_law) 2316 dL_law_2314 rfl rfl ?_
    refine f_iconst (M := mL_law) 2317 dL_law_2316 ki_1 rfl ?_
    refine f_iadd (M := mL_law) 2318 dL_law_2317 rfl ?_
    refine e_iaf (M := mL_law) (w := Lw) (f := xs) (j := (7 * N) + (1)) dL_law_2318 (x_kk rfl) rfl (ix_add rfl kn_1) (by omega) (by omega) ?_
    refine f_aload_n (M := mL_law) 2320 dL_law_2319 rfl rfl ?_
    refine e_cS (M := mL_law) [_] (c + 1) (k + 6) dL_law_2320 pa_10277 cc_10277 rfl rfl rfl rfl rfl (show c + 1 ≤ 601024 by omega) (show k + 6 ≤ 7293034 by omega) rfl (h1) rfl ?_
    refine f_istore (M := mL_law) (ls' := [_, _, _, _, _, _, _, _]) 2325 dL_law_2323 rfl rfl rfl ?_
    refine f_aload_n (M := mL_law) 2326 dL_law_2325 rfl rfl ?_
    refine f_aload_n (M := mL_law) 2327 dL_law_2326 rfl rfl ?_
    refine f_iload (M := mL_law) 2329 dL_law_2327 rfl rfl ?_
    refine f_iconst (M := mL_law) 2330 dL_law_2329 ki_1 rfl ?_
    refine f_iadd (M := mL_law) 2331 dL_law_2330 rfl ?_
    refine e_iaf (M := mL_law) (w := Lw) (f := xs) (j := (7 * N) + (1)) dL_law_2331 (x_kk rfl) rfl (ix_add rfl kn_1) (by omega) (by omega) ?_
    refine e_cV (M := mL_law) [_] (c + 1) (k + 6) dL_law_2332 pa_10279 pb_10279 cc_10279 rfl rfl rfl rfl rfl (show c + 1 ≤ 601024 by omega) (show k + 6 ≤ 7293034 by omega) rfl (h2) rfl ?_
    refine f_istore (M := mL_law) (ls' := [_, _, _, _, _, _, _, _]) 2337 dL_law_2335 rfl rfl rfl ?_
    refine f_aload_n (M := mL_law) 2338 dL_law_2337 rfl rfl ?_
    refine e_cV (M := mL_law) [_] (c + 1) (k + 6) dL_law_2338 pa_10163 pb_10163 cc_10163 rfl rfl rfl rfl rfl (show c + 1 ≤ 601024 by omega) (show k + 6 ≤ 7293034 by omega) rfl (c_X9_thrown) rfl ?_
    refine f_iload (M := mL_law) 2343 dL_law_2341 rfl rfl ?_
    refine e_icmp_eqT (M := mL_law) 2348 dL_law_2343 rfl ht ?_
    refine f_iload (M := mL_law) 2350 dL_law_2348 rfl rfl ?_
    refine e_if_neF (M := mL_law) 2365 dL_law_2350 rfl (fun q => q z) ?_
    refine f_aload_n (M := mL_law) 2354 dL_law_2353 rfl rfl ?_
    refine f_iconst (M := mL_law) 2355 dL_law_2354 ki_0 rfl ?_
    refine e_lld (M := mL_law) (w := 1) (j := 0) dL_law_2355 (x_kk rfl) rfl kn_0 (by omega) (by omega) ?_
    refine f_iload (M := mL_law) 2358 dL_law_2356 rfl rfl ?_
    refine f_i2l (M := mL_law) 2359 dL_law_2358 rfl ?_
    refine f_lcmp (M := mL_law) 2360 dL_law_2359 rfl ?_
    refine e_if_eqT (M := mL_law) 2365 dL_law_2360 rfl (lc_eq.mpr (hv z)) ?_
    refine f_goto (M := mL_law) 2888 dL_law_2365 rfl ?_
    refine f_iinc (M := mL_law) (ls' := [_, _, _, _, _, _, _, _]) 2891 dL_law_2888 ki_7 rfl rfl rfl rfl ?_
    refine f_goto (M := mL_law) 23 dL_law_2891 rfl ?_
    rw [show Int32.ofNat (7 * N) + 7 = Int32.ofNat (7 * (N + 1)) from ix_add rfl kn_7]; exact hr
  · refine ⟨I2, L2, R1, some (.int k0), some (.int v), w7, c + 1, k + 6, T2, by omega, by omega, fun r hr => ?_⟩
    refine e_tsI (j := 34) 2312 dL_law_40 rfl (by rw [hx]; decide) (by decide) rfl rfl ?_
    refine f_aload_n (M := mL_law) 2313 dL_law_2312 rfl rfl ?_
    refine f_aload_n (M := mL_law) 2314 dL_law_2313 rfl rfl ?_
    refine f_iload (M := mL_law) 2316 dL_law_2314 rfl rfl ?_
    refine f_iconst (M := mL_law) 2317 dL_law_2316 ki_1 rfl ?_
    refine f_iadd (M := mL_law) 2318 dL_law_2317 rfl ?_
    refine e_iaf (M := mL_law) (w := Lw) (f := xs) (j := (7 * N) + (1)) dL_law_2318 (x_kk rfl) rfl (ix_add rfl kn_1) (by omega) (by omega) ?_
    refine f_aload_n (M := mL_law) 2320 dL_law_2319 rfl rfl ?_
    refine e_cS (M := mL_law) [_] (c + 1) (k + 6) dL_law_2320 pa_10277 cc_10277 rfl rfl rfl rfl rfl (show c + 1 ≤ 601024 by omega) (show k + 6 ≤ 7293034 by omega) rfl (h1) rfl ?_
    refine f_istore (M := mL_law) (ls' := [_, _, _, _, _, _, _, _]) 2325 dL_law_2323 rfl rfl rfl ?_
    refine f_aload_n (M := mL_law) 2326 dL_law_2325 rfl rfl ?_
    refine f_aload_n (M := mL_law) 2327 dL_law_2326 rfl rfl ?_
    refine f_iload (M := mL_law) 2329 dL_law_2327 rfl rfl ?_
    refine f_iconst (M := mL_law) 2330 dL_law_2329 ki_1 rfl ?_
    refine f_iadd (M := mL_law) 2331 dL_law_2330 rfl ?_
    refine e_iaf (M := mL_law) (w := Lw) (f := xs) (j := (7 * N) + (1)) dL_law_2331 (x_kk rfl) rfl (ix_add rfl kn_1) (by omega) (by omega) ?_
    refine e_cV (M := mL_law) [_] (c + 1) (k + 6) dL_law_2332 pa_10279 pb_10279 cc_10279 rfl rfl rfl rfl rfl (show c + 1 ≤ 601024 by omega) (show k + 6 ≤ 7293034 by omega) rfl (h2) rfl ?_
    refine f_istore (M := mL_law) (ls' := [_, _, _, _, _, _, _, _]) 2337 dL_law_2335 rfl rfl rfl ?_
    refine f_aload_n (M := mL_law) 2338 dL_law_2337 rfl rfl ?_
    refine e_cV (M := mL_law) [_] (c + 1) (k + 6) dL_law_2338 pa_10163 pb_10163 cc_10163 rfl rfl rfl rfl rfl (show c + 1 ≤ 601024 by omega) (show k + 6 ≤ 7293034 by omega) rfl (c_X9_thrown) rfl ?_
    refine f_iload (M := mL_law) 2343 dL_law_2341 rfl rfl ?_
    refine e_icmp_eqT (M := mL_law) 2348 dL_law_2343 rfl ht ?_
    refine f_iload (M := mL_law) 2350 dL_law_2348 rfl rfl ?_
    refine e_if_neT (M := mL_law) 2365 dL_law_2350 rfl z ?_
    refine f_goto (M := mL_law) 2888 dL_law_2365 rfl ?_
    refine f_iinc (M := mL_law) (ls' := [_, _, _, _, _, _, _, _]) 2891 dL_law_2888 ki_7 rfl rfl rfl rfl ?_
    refine f_goto (M := mL_law) 23 dL_law_2891 rfl ?_
    rw [show Int32.ofNat (7 * N) + 7 = Int32.ofNat (7 * (N + 1)) from ix_add rfl kn_7]; exact hr
theorem law_35 (hlen : 7 * N + 7 ≤ Lw) (hLw : Lw ≤ 3584) (T : y_T N I L R) (hN : N < 512) (hc : c ≤ 233 + 4 * N) (hk : k ≤ 14655 + 24 * N) (hx : xs (7 * N) &&& 63 = Int32.ofNat 35) : y_Nx Lw xs N I L R c k w5 w6 w7 := by
  by_cases hb : xs (7 * N + 1) = 0
  · skip
    have sm : y_DI N (Lw, xs) mX8_factor [.ref 0, .int 0] mX9_factor [.ref 225, .int 0] I L R := sim_factor (X := (Lw, xs)) T
    obtain ⟨v, I2, L2, h1, h2, T2⟩ := sm
    refine ⟨I2, L2, R, w5, w6, w7, c + 0, k + 0, T2, by omega, by omega, fun r hr => ?_⟩
    refine e_tsI (j := 35) 2368 dL_law_40 rfl (by rw [hx]; decide) (by decide) rfl rfl ?_
    refine f_aload_n (M := mL_law) 2369 dL_law_2368 rfl rfl ?_
    refine f_aload_n (M := mL_law) 2370 dL_law_2369 rfl rfl ?_
    refine f_iload (M := mL_law) 2372 dL_law_2370 rfl rfl ?_
    refine f_iconst (M := mL_law) 2373 dL_law_2372 ki_1 rfl ?_
    refine f_iadd (M := mL_law) 2374 dL_law_2373 rfl ?_
    refine e_iaf (M := mL_law) (w := Lw) (f := xs) (j := (7 * N) + (1)) dL_law_2374 (x_kk rfl) rfl (ix_add rfl kn_1) (by omega) (by omega) ?_
    refine e_if_eqT (M := mL_law) 2382 dL_law_2375 rfl hb ?_
    refine f_iconst (M := mL_law) 2383 dL_law_2382 ki_0 rfl ?_
    refine e_cV (M := mL_law) [_] (c + 0) (k + 0) dL_law_2383 pa_10280 pb_10280 cc_10280 rfl rfl rfl rfl rfl (show c + 0 ≤ 601024 by omega) (show k + 0 ≤ 7293034 by omega) rfl (h1) rfl ?_
    refine f_aload_n (M := mL_law) 2387 dL_law_2386 rfl rfl ?_
    refine f_aload_n (M := mL_law) 2388 dL_law_2387 rfl rfl ?_
    refine f_iload (M := mL_law) 2390 dL_law_2388 rfl rfl ?_
    refine f_iconst (M := mL_law) 2391 dL_law_2390 ki_1 rfl ?_
    refine f_iadd (M := mL_law) 2392 dL_law_2391 rfl ?_
    refine e_iaf (M := mL_law) (w := Lw) (f := xs) (j := (7 * N) + (1)) dL_law_2392 (x_kk rfl) rfl (ix_add rfl kn_1) (by omega) (by omega) ?_
    refine e_if_eqT (M := mL_law) 2400 dL_law_2393 rfl hb ?_
    refine f_iconst (M := mL_law) 2401 dL_law_2400 ki_0 rfl ?_
    refine e_cV (M := mL_law) [_, _] (c + 0) (k + 0) dL_law_2401 pa_10284 pb_10284 cc_10284 rfl rfl rfl rfl rfl (show c + 0 ≤ 601024 by omega) (show k + 0 ≤ 7293034 by omega) rfl (h2) rfl ?_
    refine e_icmp_eqT (M := mL_law) 2888 dL_law_2404 rfl rfl ?_
    refine f_iinc (M := mL_law) (ls' := [_, _, _, _, _, _, _, _]) 2891 dL_law_2888 ki_7 rfl rfl rfl rfl ?_
    refine f_goto (M := mL_law) 23 dL_law_2891 rfl ?_
    rw [show Int32.ofNat (7 * N) + 7 = Int32.ofNat (7 * (N + 1)) from ix_add rfl kn_7]; exact hr
  · skip
    have sm : y_DI N (Lw, xs) mX8_factor [.ref 0, .int 1] mX9_factor [.ref 225, .int 1] I L R := sim_factor (X := (Lw, xs)) T
    obtain ⟨v, I2, L2, h1, h2, T2⟩ := sm
    refine ⟨I2, L2, R, w5, w6, w7, c + 0, k + 0, T2, by omega, by omega, fun r hr => ?_⟩
    refine e_tsI (j := 35) 2368 dL_law_40 rfl (by rw [hx]; decide) (by decide) rfl rfl ?_
    refine f_aload_n (M := mL_law) 2369 dL_law_2368 rfl rfl ?_
    refine f_aload_n (M := mL_law) 2370 dL_law_2369 rfl rfl ?_
    refine f_iload (M := mL_law) 2372 dL_law_2370 rfl rfl ?_
    refine f_iconst (M := mL_law) 2373 dL_law_2372 ki_1 rfl ?_
    refine f_iadd (M := mL_law) 2374 dL_law_2373 rfl ?_
    refine e_iaf (M := mL_law) (w := Lw) (f := xs) (j := (7 * N) + (1)) dL_law_2374 (x_kk rfl) rfl (ix_add rfl kn_1) (by omega) (by omega) ?_
    refine e_if_eqF (M := mL_law) 2382 dL_law_2375 rfl hb ?_
    refine f_iconst (M := mL_law) 2379 dL_law_2378 ki_1 rfl ?_
    refine f_goto (M := mL_law) 2383 dL_law_2379 rfl ?_
    refine e_cV (M := mL_law) [_] (c + 0) (k + 0) dL_law_2383 pa_10280 pb_10280 cc_10280 rfl rfl rfl rfl rfl (show c + 0 ≤ 601024 by omega) (show k + 0 ≤ 7293034 by omega) rfl (h1) rfl ?_
    refine f_aload_n (M := mL_law) 2387 dL_law_2386 rfl rfl ?_
    refine f_aload_n (M := mL_law) 2388 dL_law_2387 rfl rfl ?_
    refine f_iload (M := mL_law) 2390 dL_law_2388 rfl rfl ?_
    refine f_iconst (M := mL_law) 2391 dL_law_2390 ki_1 rfl ?_
    refine f_iadd (M := mL_law) 2392 dL_law_2391 rfl ?_
    refine e_iaf (M := mL_law) (w := Lw) (f := xs) (j := (7 * N) + (1)) dL_law_2392 (x_kk rfl) rfl (ix_add rfl kn_1) (by omega) (by omega) ?_
    refine e_if_eqF (M := mL_law) 2400 dL_law_2393 rfl hb ?_
    refine f_iconst (M := mL_law) 2397 dL_law_2396 ki_1 rfl ?_
    refine f_goto (M := mL_law) 2401 dL_law_2397 rfl ?_
    refine e_cV (M := mL_law) [_, _] (c + 0) (k + 0) dL_law_2401 pa_10284 pb_10284 cc_10284 rfl rfl rfl rfl rfl (show c + 0 ≤ 601024 by omega) (show k + 0 ≤ 7293034 by omega) rfl (h2) rfl ?_
    refine e_icmp_eqT (M := mL_law) 2888 dL_law_2404 rfl rfl ?_
    refine f_iinc (M := mL_law) (ls' := [_, _, _, _, _, _, _, _]) 2891 dL_law_2888 ki_7 rfl rfl rfl rfl ?_
    refine f_goto (M := mL_law) 23 dL_law_2891 rfl ?_
    rw [show Int32.ofNat (7 * N) + 7 = Int32.ofNat (7 * (N + 1)) from ix_add rfl kn_7]; exact hr
theorem law_36 (hlen : 7 * N + 7 ≤ Lw) (hLw : Lw ≤ 3584) (T : y_T N I L R) (hN : N < 512) (hc : c ≤ 233 + 4 * N) (hk : k ≤ 14655 + 24 * N) (hx : xs (7 * N) &&& 63 = Int32.ofNat 36) : y_Nx Lw xs N I L R c k w5 w6 w7 := by
  have sm : y_DI N (Lw, xs) mX8_month [.ref 0] mX9_month [.ref 225] I L R := sim_month (X := (Lw, xs)) T
  obtain ⟨v, I2, L2, h1, h2, T2⟩ := sm
  refine ⟨I2, L2, R, w5, w6, w7, c + 0, k + 0, T2, by omega, by omega, fun r hr => ?_⟩
  refine e_tsI (j := 36) 2409 dL_law_40 rfl (by rw [hx]; decide) (by decide) rfl rfl ?_
  refine f_aload_n (M := mL_law) 2410 dL_law_2409 rfl rfl ?_
  refine e_cV (M := mL_law) [_] (c + 0) (k + 0) dL_law_2410 pa_10285 pb_10285 cc_10285 rfl rfl rfl rfl rfl (show c + 0 ≤ 601024 by omega) (show k + 0 ≤ 7293034 by omega) rfl (h1) rfl ?_
  refine f_aload_n (M := mL_law) 2414 dL_law_2413 rfl rfl ?_
  refine e_cV (M := mL_law) [_, _] (c + 0) (k + 0) dL_law_2414 pa_10288 pb_10288 cc_10288 rfl rfl rfl rfl rfl (show c + 0 ≤ 601024 by omega) (show k + 0 ≤ 7293034 by omega) rfl (h2) rfl ?_
  refine e_icmp_eqT (M := mL_law) 2888 dL_law_2417 rfl rfl ?_
  refine f_iinc (M := mL_law) (ls' := [_, _, _, _, _, _, _, _]) 2891 dL_law_2888 ki_7 rfl rfl rfl rfl ?_
  refine f_goto (M := mL_law) 23 dL_law_2891 rfl ?_
  rw [show Int32.ofNat (7 * N) + 7 = Int32.ofNat (7 * (N + 1)) from ix_add rfl kn_7]; exact hr
theorem law_37 (hlen : 7 * N + 7 ≤ Lw) (hLw : Lw ≤ 3584) (T : y_T N I L R) (hN : N < 512) (hc : c ≤ 233 + 4 * N) (hk : k ≤ 14655 + 24 * N) (hx : xs (7 * N) &&& 63 = Int32.ofNat 37) : y_Nx Lw xs N I L R c k w5 w6 w7 := by
  have sm : y_OL N (Lw, xs) mL_endMonth [.ref 0, .ref 232] mX9_endMonth [.ref 225] I L R := sim_endMonth (X := (Lw, xs)) T
  obtain ⟨k0, I1, L1, R1, v, I2, L2, h1, h2, ht, hv, T2⟩ := sm
  by_cases z : k0 = 0
  · refine ⟨I2, L2, R1, some (.int k0), some (.long v), none, c + 1, k + 6, T2, by omega, by omega, fun r hr => ?_⟩
    refine e_tsI (j := 37) 2422 dL_law_40 rfl (by rw [hx]; decide) (by decide) rfl rfl ?_
    refine f_aload_n (M := mL_law) 2423 dL_law_2422 rfl rfl ?_
    refine f_aload_n (M := mL_law) 2424 dL_law_2423 rfl rfl ?_
    refine e_cS (M := mL_law) [_] (c + 1) (k + 6) dL_law_2424 pa_10289 cc_10289 rfl rfl rfl rfl rfl (show c + 1 ≤ 601024 by omega) (show k + 6 ≤ 7293034 by omega) rfl (h1) rfl ?_
    refine f_istore (M := mL_law) (ls' := [_, _, _, _, _, _, _, _]) 2429 dL_law_2427 rfl rfl rfl ?_
    refine f_aload_n (M := mL_law) 2430 dL_law_2429 rfl rfl ?_
    refine e_cV (M := mL_law) [_] (c + 1) (k + 6) dL_law_2430 pa_10291 pb_10291 cc_10291 rfl rfl rfl rfl rfl (show c + 1 ≤ 601024 by omega) (show k + 6 ≤ 7293034 by omega) rfl (h2) rfl ?_
    refine f_lstore (M := mL_law) (ls' := [_, _, _, _, _, _, _, _]) 2435 dL_law_2433 rfl rfl rfl ?_
    refine f_aload_n (M := mL_law) 2436 dL_law_2435 rfl rfl ?_
    refine e_cV (M := mL_law) [_] (c + 1) (k + 6) dL_law_2436 pa_10163 pb_10163 cc_10163 rfl rfl rfl rfl rfl (show c + 1 ≤ 601024 by omega) (show k + 6 ≤ 7293034 by omega) rfl (c_X9_thrown) rfl ?_
    refine f_iload (M := mL_law) 2441 dL_law_2439 rfl rfl ?_
    refine e_icmp_eqT (M := mL_law) 2446 dL_law_2441 rfl ht ?_
    refine f_iload (M := mL_law) 2448 dL_law_2446 rfl rfl ?_
    refine e_if_neF (M := mL_law) 2462 dL_law_2448 rfl (fun q => q z) ?_
    refine f_aload_n (M := mL_law) 2452 dL_law_2451 rfl rfl ?_
    refine f_iconst (M := mL_law) 2453 dL_law_2452 ki_0 rfl ?_
    refine e_lld (M := mL_law) (w := 1) (j := 0) dL_law_2453 (x_kk rfl) rfl kn_0 (by omega) (by omega) ?_
    refine f_lload (M := mL_law) 2456 dL_law_2454 rfl rfl ?_
    refine f_lcmp (M := mL_law) 2457 dL_law_2456 rfl ?_
    refine e_if_eqT (M := mL_law) 2462 dL_law_2457 rfl (lc_eq.mpr (hv z)) ?_
    refine f_goto (M := mL_law) 2888 dL_law_2462 rfl ?_
    refine f_iinc (M := mL_law) (ls' := [_, _, _, _, _, _, _, _]) 2891 dL_law_2888 ki_7 rfl rfl rfl rfl ?_
    refine f_goto (M := mL_law) 23 dL_law_2891 rfl ?_
    rw [show Int32.ofNat (7 * N) + 7 = Int32.ofNat (7 * (N + 1)) from ix_add rfl kn_7]; exact hr
  · refine ⟨I2, L2, R1, some (.int k0), some (.long v), none, c + 1, k + 6, T2, by omega, by omega, fun r hr => ?_⟩
    refine e_tsI (j := 37) 2422 dL_law_40 rfl (by rw [hx]; decide) (by decide) rfl rfl ?_
    refine f_aload_n (M := mL_law) 2423 dL_law_2422 rfl rfl ?_
    refine f_aload_n (M := mL_law) 2424 dL_law_2423 rfl rfl ?_
    refine e_cS (M := mL_law) [_] (c + 1) (k + 6) dL_law_2424 pa_10289 cc_10289 rfl rfl rfl rfl rfl (show c + 1 ≤ 601024 by omega) (show k + 6 ≤ 7293034 by omega) rfl (h1) rfl ?_
    refine f_istore (M := mL_law) (ls' := [_, _, _, _, _, _, _, _]) 2429 dL_law_2427 rfl rfl rfl ?_
    refine f_aload_n (M := mL_law) 2430 dL_law_2429 rfl rfl ?_
    refine e_cV (M := mL_law) [_] (c + 1) (k + 6) dL_law_2430 pa_10291 pb_10291 cc_10291 rfl rfl rfl rfl rfl (show c + 1 ≤ 601024 by omega) (show k + 6 ≤ 7293034 by omega) rfl (h2) rfl ?_
    refine f_lstore (M := mL_law) (ls' := [_, _, _, _, _, _, _, _]) 2435 dL_law_2433 rfl rfl rfl ?_
    refine f_aload_n (M := mL_law) 2436 dL_law_2435 rfl rfl ?_
    refine e_cV (M := mL_law) [_] (c + 1) (k + 6) dL_law_2436 pa_10163 pb_10163 cc_10163 rfl rfl rfl rfl rfl (show c + 1 ≤ 601024 by omega) (show k + 6 ≤ 7293034 by omega) rfl (c_X9_thrown) rfl ?_
    refine f_iload (M := mL_law) 2441 dL_law_2439 rfl rfl ?_
    refine e_icmp_eqT (M := mL_law) 2446 dL_law_2441 rfl ht ?_
    refine f_iload (M := mL_law) 2448 dL_law_2446 rfl rfl ?_
    refine e_if_neT (M := mL_law) 2462 dL_law_2448 rfl z ?_
    refine f_goto (M := mL_law) 2888 dL_law_2462 rfl ?_
    refine f_iinc (M := mL_law) (ls' := [_, _, _, _, _, _, _, _]) 2891 dL_law_2888 ki_7 rfl rfl rfl rfl ?_
    refine f_goto (M := mL_law) 23 dL_law_2891 rfl ?_
    rw [show Int32.ofNat (7 * N) + 7 = Int32.ofNat (7 * (N + 1)) from ix_add rfl kn_7]; exact hr
theorem law_38 (hlen : 7 * N + 7 ≤ Lw) (hLw : Lw ≤ 3584) (T : y_T N I L R) (hN : N < 512) (hc : c ≤ 233 + 4 * N) (hk : k ≤ 14655 + 24 * N) (hx : xs (7 * N) &&& 63 = Int32.ofNat 38) : y_Nx Lw xs N I L R c k w5 w6 w7 := by
  have sm : y_OL N (Lw, xs) mL_charge [.ref 0, .int (xs (7 * N + 1)), .ref 232] mX9_charge [.ref 225, .int (xs (7 * N + 1))] I L R := sim_charge (X := (Lw, xs)) T
  obtain ⟨k0, I1, L1, R1, v, I2, L2, h1, h2, ht, hv, T2⟩ := sm
  by_cases z : k0 = 0
  · refine ⟨I2, L2, R1, some (.int k0), some (.long v), none, c + 2, k + 12, T2, by omega, by omega, fun r hr => ?_⟩
    refine e_tsI (j := 38) 2465 dL_law_40 rfl (by rw [hx]; decide) (by decide) rfl rfl ?_
    refine f_aload_n (M := mL_law) 2466 dL_law_2465 rfl rfl ?_
    refine f_aload_n (M := mL_law) 2467 dL_law_2466 rfl rfl ?_
    refine f_iload (M := mL_law) 2469 dL_law_2467 rfl rfl ?_
    refine f_iconst (M := mL_law) 2470 dL_law_2469 ki_1 rfl ?_
    refine f_iadd (M := mL_law) 2471 dL_law_2470 rfl ?_
    refine e_iaf (M := mL_law) (w := Lw) (f := xs) (j := (7 * N) + (1)) dL_law_2471 (x_kk rfl) rfl (ix_add rfl kn_1) (by omega) (by omega) ?_
    refine f_aload_n (M := mL_law) 2473 dL_law_2472 rfl rfl ?_
    refine e_cS (M := mL_law) [_] (c + 2) (k + 12) dL_law_2473 pa_10292 cc_10292 rfl rfl rfl rfl rfl (show c + 2 ≤ 601024 by omega) (show k + 12 ≤ 7293034 by omega) rfl (h1) rfl ?_
    refine f_istore (M := mL_law) (ls' := [_, _, _, _, _, _, _, _]) 2478 dL_law_2476 rfl rfl rfl ?_
    refine f_aload_n (M := mL_law) 2479 dL_law_2478 rfl rfl ?_
    refine f_aload_n (M := mL_law) 2480 dL_law_2479 rfl rfl ?_
    refine f_iload (M := mL_law) 2482 dL_law_2480 rfl rfl ?_
    refine f_iconst (M := mL_law) 2483 dL_law_2482 ki_1 rfl ?_
    refine f_iadd (M := mL_law) 2484 dL_law_2483 rfl ?_
    refine e_iaf (M := mL_law) (w := Lw) (f := xs) (j := (7 * N) + (1)) dL_law_2484 (x_kk rfl) rfl (ix_add rfl kn_1) (by omega) (by omega) ?_
    refine e_cV (M := mL_law) [_] (c + 2) (k + 12) dL_law_2485 pa_10294 pb_10294 cc_10294 rfl rfl rfl rfl rfl (show c + 2 ≤ 601024 by omega) (show k + 12 ≤ 7293034 by omega) rfl (h2) rfl ?_
    refine f_lstore (M := mL_law) (ls' := [_, _, _, _, _, _, _, _]) 2490 dL_law_2488 rfl rfl rfl ?_
    refine f_aload_n (M := mL_law) 2491 dL_law_2490 rfl rfl ?_
    refine e_cV (M := mL_law) [_] (c + 2) (k + 12) dL_law_2491 pa_10163 pb_10163 cc_10163 rfl rfl rfl rfl rfl (show c + 2 ≤ 601024 by omega) (show k + 12 ≤ 7293034 by omega) rfl (c_X9_thrown) rfl ?_
    refine f_iload (M := mL_law) 2496 dL_law_2494 rfl rfl ?_
    refine e_icmp_eqT (M := mL_law) 2501 dL_law_2496 rfl ht ?_
    refine f_iload (M := mL_law) 2503 dL_law_2501 rfl rfl ?_
    refine e_if_neF (M := mL_law) 2517 dL_law_2503 rfl (fun q => q z) ?_
    refine f_aload_n (M := mL_law) 2507 dL_law_2506 rfl rfl ?_
    refine f_iconst (M := mL_law) 2508 dL_law_2507 ki_0 rfl ?_
    refine e_lld (M := mL_law) (w := 1) (j := 0) dL_law_2508 (x_kk rfl) rfl kn_0 (by omega) (by omega) ?_
    refine f_lload (M := mL_law) 2511 dL_law_2509 rfl rfl ?_
    refine f_lcmp (M := mL_law) 2512 dL_law_2511 rfl ?_
    refine e_if_eqT (M := mL_law) 2517 dL_law_2512 rfl (lc_eq.mpr (hv z)) ?_
    refine f_goto (M := mL_law) 2888 dL_law_2517 rfl ?_
    refine f_iinc (M := mL_law) (ls' := [_, _, _, _, _, _, _, _]) 2891 dL_law_2888 ki_7 rfl rfl rfl rfl ?_
    refine f_goto (M := mL_law) 23 dL_law_2891 rfl ?_
    rw [show Int32.ofNat (7 * N) + 7 = Int32.ofNat (7 * (N + 1)) from ix_add rfl kn_7]; exact hr
  · refine ⟨I2, L2, R1, some (.int k0), some (.long v), none, c + 2, k + 12, T2, by omega, by omega, fun r hr => ?_⟩
    refine e_tsI (j := 38) 2465 dL_law_40 rfl (by rw [hx]; decide) (by decide) rfl rfl ?_
    refine f_aload_n (M := mL_law) 2466 dL_law_2465 rfl rfl ?_
    refine f_aload_n (M := mL_law) 2467 dL_law_2466 rfl rfl ?_
    refine f_iload (M := mL_law) 2469 dL_law_2467 rfl rfl ?_
    refine f_iconst (M := mL_law) 2470 dL_law_2469 ki_1 rfl ?_
    refine f_iadd (M := mL_law) 2471 dL_law_2470 rfl ?_
    refine e_iaf (M := mL_law) (w := Lw) (f := xs) (j := (7 * N) + (1)) dL_law_2471 (x_kk rfl) rfl (ix_add rfl kn_1) (by omega) (by omega) ?_
    refine f_aload_n (M := mL_law) 2473 dL_law_2472 rfl rfl ?_
    refine e_cS (M := mL_law) [_] (c + 2) (k + 12) dL_law_2473 pa_10292 cc_10292 rfl rfl rfl rfl rfl (show c + 2 ≤ 601024 by omega) (show k + 12 ≤ 7293034 by omega) rfl (h1) rfl ?_
    refine f_istore (M := mL_law) (ls' := [_, _, _, _, _, _, _, _]) 2478 dL_law_2476 rfl rfl rfl ?_
    refine f_aload_n (M := mL_law) 2479 dL_law_2478 rfl rfl ?_
    refine f_aload_n (M := mL_law) 2480 dL_law_2479 rfl rfl ?_
    refine f_iload (M := mL_law) 2482 dL_law_2480 rfl rfl ?_
    refine f_iconst (M := mL_law) 2483 dL_law_2482 ki_1 rfl ?_
    refine f_iadd (M := mL_law) 2484 dL_law_2483 rfl ?_
    refine e_iaf (M := mL_law) (w := Lw) (f := xs) (j := (7 * N) + (1)) dL_law_2484 (x_kk rfl) rfl (ix_add rfl kn_1) (by omega) (by omega) ?_
    refine e_cV (M := mL_law) [_] (c + 2) (k + 12) dL_law_2485 pa_10294 pb_10294 cc_10294 rfl rfl rfl rfl rfl (show c + 2 ≤ 601024 by omega) (show k + 12 ≤ 7293034 by omega) rfl (h2) rfl ?_
    refine f_lstore (M := mL_law) (ls' := [_, _, _, _, _, _, _, _]) 2490 dL_law_2488 rfl rfl rfl ?_
    refine f_aload_n (M := mL_law) 2491 dL_law_2490 rfl rfl ?_
    refine e_cV (M := mL_law) [_] (c + 2) (k + 12) dL_law_2491 pa_10163 pb_10163 cc_10163 rfl rfl rfl rfl rfl (show c + 2 ≤ 601024 by omega) (show k + 12 ≤ 7293034 by omega) rfl (c_X9_thrown) rfl ?_
    refine f_iload (M := mL_law) 2496 dL_law_2494 rfl rfl ?_
    refine e_icmp_eqT (M := mL_law) 2501 dL_law_2496 rfl ht ?_
    refine f_iload (M := mL_law) 2503 dL_law_2501 rfl rfl ?_
    refine e_if_neT (M := mL_law) 2517 dL_law_2503 rfl z ?_
    refine f_goto (M := mL_law) 2888 dL_law_2517 rfl ?_
    refine f_iinc (M := mL_law) (ls' := [_, _, _, _, _, _, _, _]) 2891 dL_law_2888 ki_7 rfl rfl rfl rfl ?_
    refine f_goto (M := mL_law) 23 dL_law_2891 rfl ?_
    rw [show Int32.ofNat (7 * N) + 7 = Int32.ofNat (7 * (N + 1)) from ix_add rfl kn_7]; exact hr
theorem law_39 (hlen : 7 * N + 7 ≤ Lw) (hLw : Lw ≤ 3584) (T : y_T N I L R) (hN : N < 512) (hc : c ≤ 233 + 4 * N) (hk : k ≤ 14655 + 24 * N) (hx : xs (7 * N) &&& 63 = Int32.ofNat 39) : y_Nx Lw xs N I L R c k w5 w6 w7 := by
  have sm : y_OL N (Lw, xs) mL_pay [.ref 0, .int (xs (7 * N + 1)), .ref 232] mX9_pay [.ref 225, .int (xs (7 * N + 1))] I L R := sim_pay (X := (Lw, xs)) T
  obtain ⟨k0, I1, L1, R1, v, I2, L2, h1, h2, ht, hv, T2⟩ := sm
  by_cases z : k0 = 0
  · refine ⟨I2, L2, R1, some (.int k0), some (.long v), none, c + 2, k + 12, T2, by omega, by omega, fun r hr => ?_⟩
    refine e_tsI (j := 39) 2520 dL_law_40 rfl (by rw [hx]; decide) (by decide) rfl rfl ?_
    refine f_aload_n (M := mL_law) 2521 dL_law_2520 rfl rfl ?_
    refine f_aload_n (M := mL_law) 2522 dL_law_2521 rfl rfl ?_
    refine f_iload (M := mL_law) 2524 dL_law_2522 rfl rfl ?_
    refine f_iconst (M := mL_law) 2525 dL_law_2524 ki_1 rfl ?_
    refine f_iadd (M := mL_law) 2526 dL_law_2525 rfl ?_
    refine e_iaf (M := mL_law) (w := Lw) (f := xs) (j := (7 * N) + (1)) dL_law_2526 (x_kk rfl) rfl (ix_add rfl kn_1) (by omega) (by omega) ?_
    refine f_aload_n (M := mL_law) 2528 dL_law_2527 rfl rfl ?_
    refine e_cS (M := mL_law) [_] (c + 2) (k + 12) dL_law_2528 pa_10295 cc_10295 rfl rfl rfl rfl rfl (show c + 2 ≤ 601024 by omega) (show k + 12 ≤ 7293034 by omega) rfl (h1) rfl ?_
    refine f_istore (M := mL_law) (ls' := [_, _, _, _, _, _, _, _]) 2533 dL_law_2531 rfl rfl rfl ?_
    refine f_aload_n (M := mL_law) 2534 dL_law_2533 rfl rfl ?_
    refine f_aload_n (M := mL_law) 2535 dL_law_2534 rfl rfl ?_
    refine f_iload (M := mL_law) 2537 dL_law_2535 rfl rfl ?_
    refine f_iconst (M := mL_law) 2538 dL_law_2537 ki_1 rfl ?_
    refine f_iadd (M := mL_law) 2539 dL_law_2538 rfl ?_
    refine e_iaf (M := mL_law) (w := Lw) (f := xs) (j := (7 * N) + (1)) dL_law_2539 (x_kk rfl) rfl (ix_add rfl kn_1) (by omega) (by omega) ?_
    refine e_cV (M := mL_law) [_] (c + 2) (k + 12) dL_law_2540 pa_10297 pb_10297 cc_10297 rfl rfl rfl rfl rfl (show c + 2 ≤ 601024 by omega) (show k + 12 ≤ 7293034 by omega) rfl (h2) rfl ?_
    refine f_lstore (M := mL_law) (ls' := [_, _, _, _, _, _, _, _]) 2545 dL_law_2543 rfl rfl rfl ?_
    refine f_aload_n (M := mL_law) 2546 dL_law_2545 rfl rfl ?_
    refine e_cV (M := mL_law) [_] (c + 2) (k + 12) dL_law_2546 pa_10163 pb_10163 cc_10163 rfl rfl rfl rfl rfl (show c + 2 ≤ 601024 by omega) (show k + 12 ≤ 7293034 by omega) rfl (c_X9_thrown) rfl ?_
    refine f_iload (M := mL_law) 2551 dL_law_2549 rfl rfl ?_
    refine e_icmp_eqT (M := mL_law) 2556 dL_law_2551 rfl ht ?_
    refine f_iload (M := mL_law) 2558 dL_law_2556 rfl rfl ?_
    refine e_if_neF (M := mL_law) 2572 dL_law_2558 rfl (fun q => q z) ?_
    refine f_aload_n (M := mL_law) 2562 dL_law_2561 rfl rfl ?_
    refine f_iconst (M := mL_law) 2563 dL_law_2562 ki_0 rfl ?_
    refine e_lld (M := mL_law) (w := 1) (j := 0) dL_law_2563 (x_kk rfl) rfl kn_0 (by omega) (by omega) ?_
    refine f_lload (M := mL_law) 2566 dL_law_2564 rfl rfl ?_
    refine f_lcmp (M := mL_law) 2567 dL_law_2566 rfl ?_
    refine e_if_eqT (M := mL_law) 2572 dL_law_2567 rfl (lc_eq.mpr (hv z)) ?_
    refine f_goto (M := mL_law) 2888 dL_law_2572 rfl ?_
    refine f_iinc (M := mL_law) (ls' := [_, _, _, _, _, _, _, _]) 2891 dL_law_2888 ki_7 rfl rfl rfl rfl ?_
    refine f_goto (M := mL_law) 23 dL_law_2891 rfl ?_
    rw [show Int32.ofNat (7 * N) + 7 = Int32.ofNat (7 * (N + 1)) from ix_add rfl kn_7]; exact hr
  · refine ⟨I2, L2, R1, some (.int k0), some (.long v), none, c + 2, k + 12, T2, by omega, by omega, fun r hr => ?_⟩
    refine e_tsI (j := 39) 2520 dL_law_40 rfl (by rw [hx]; decide) (by decide) rfl rfl ?_
    refine f_aload_n (M := mL_law) 2521 dL_law_2520 rfl rfl ?_
    refine f_aload_n (M := mL_law) 2522 dL_law_2521 rfl rfl ?_
    refine f_iload (M := mL_law) 2524 dL_law_2522 rfl rfl ?_
    refine f_iconst (M := mL_law) 2525 dL_law_2524 ki_1 rfl ?_
    refine f_iadd (M := mL_law) 2526 dL_law_2525 rfl ?_
    refine e_iaf (M := mL_law) (w := Lw) (f := xs) (j := (7 * N) + (1)) dL_law_2526 (x_kk rfl) rfl (ix_add rfl kn_1) (by omega) (by omega) ?_
    refine f_aload_n (M := mL_law) 2528 dL_law_2527 rfl rfl ?_
    refine e_cS (M := mL_law) [_] (c + 2) (k + 12) dL_law_2528 pa_10295 cc_10295 rfl rfl rfl rfl rfl (show c + 2 ≤ 601024 by omega) (show k + 12 ≤ 7293034 by omega) rfl (h1) rfl ?_
    refine f_istore (M := mL_law) (ls' := [_, _, _, _, _, _, _, _]) 2533 dL_law_2531 rfl rfl rfl ?_
    refine f_aload_n (M := mL_law) 2534 dL_law_2533 rfl rfl ?_
    refine f_aload_n (M := mL_law) 2535 dL_law_2534 rfl rfl ?_
    refine f_iload (M := mL_law) 2537 dL_law_2535 rfl rfl ?_
    refine f_iconst (M := mL_law) 2538 dL_law_2537 ki_1 rfl ?_
    refine f_iadd (M := mL_law) 2539 dL_law_2538 rfl ?_
    refine e_iaf (M := mL_law) (w := Lw) (f := xs) (j := (7 * N) + (1)) dL_law_2539 (x_kk rfl) rfl (ix_add rfl kn_1) (by omega) (by omega) ?_
    refine e_cV (M := mL_law) [_] (c + 2) (k + 12) dL_law_2540 pa_10297 pb_10297 cc_10297 rfl rfl rfl rfl rfl (show c + 2 ≤ 601024 by omega) (show k + 12 ≤ 7293034 by omega) rfl (h2) rfl ?_
    refine f_lstore (M := mL_law) (ls' := [_, _, _, _, _, _, _, _]) 2545 dL_law_2543 rfl rfl rfl ?_
    refine f_aload_n (M := mL_law) 2546 dL_law_2545 rfl rfl ?_
    refine e_cV (M := mL_law) [_] (c + 2) (k + 12) dL_law_2546 pa_10163 pb_10163 cc_10163 rfl rfl rfl rfl rfl (show c + 2 ≤ 601024 by omega) (show k + 12 ≤ 7293034 by omega) rfl (c_X9_thrown) rfl ?_
    refine f_iload (M := mL_law) 2551 dL_law_2549 rfl rfl ?_
    refine e_icmp_eqT (M := mL_law) 2556 dL_law_2551 rfl ht ?_
    refine f_iload (M := mL_law) 2558 dL_law_2556 rfl rfl ?_
    refine e_if_neT (M := mL_law) 2572 dL_law_2558 rfl z ?_
    refine f_goto (M := mL_law) 2888 dL_law_2572 rfl ?_
    refine f_iinc (M := mL_law) (ls' := [_, _, _, _, _, _, _, _]) 2891 dL_law_2888 ki_7 rfl rfl rfl rfl ?_
    refine f_goto (M := mL_law) 23 dL_law_2891 rfl ?_
    rw [show Int32.ofNat (7 * N) + 7 = Int32.ofNat (7 * (N + 1)) from ix_add rfl kn_7]; exact hr
theorem law_40 (hlen : 7 * N + 7 ≤ Lw) (hLw : Lw ≤ 3584) (T : y_T N I L R) (hN : N < 512) (hc : c ≤ 233 + 4 * N) (hk : k ≤ 14655 + 24 * N) (hx : xs (7 * N) &&& 63 = Int32.ofNat 40) : y_Nx Lw xs N I L R c k w5 w6 w7 := by
  have sm : y_DL N (Lw, xs) mX8_debt [.ref 0] mX9_debt [.ref 225] I L R := sim_debt (X := (Lw, xs)) T
  obtain ⟨v, I2, L2, h1, h2, T2⟩ := sm
  refine ⟨I2, L2, R, w5, w6, w7, c + 0, k + 0, T2, by omega, by omega, fun r hr => ?_⟩
  refine e_tsI (j := 40) 2575 dL_law_40 rfl (by rw [hx]; decide) (by decide) rfl rfl ?_
  refine f_aload_n (M := mL_law) 2576 dL_law_2575 rfl rfl ?_
  refine e_cV (M := mL_law) [_] (c + 0) (k + 0) dL_law_2576 pa_10298 pb_10298 cc_10298 rfl rfl rfl rfl rfl (show c + 0 ≤ 601024 by omega) (show k + 0 ≤ 7293034 by omega) rfl (h1) rfl ?_
  refine f_aload_n (M := mL_law) 2580 dL_law_2579 rfl rfl ?_
  refine e_cV (M := mL_law) [_, _] (c + 0) (k + 0) dL_law_2580 pa_10301 pb_10301 cc_10301 rfl rfl rfl rfl rfl (show c + 0 ≤ 601024 by omega) (show k + 0 ≤ 7293034 by omega) rfl (h2) rfl ?_
  refine f_lcmp (M := mL_law) 2584 dL_law_2583 rfl ?_
  refine e_if_eqT (M := mL_law) 2888 dL_law_2584 rfl (lc_eq.mpr rfl) ?_
  refine f_iinc (M := mL_law) (ls' := [_, _, _, _, _, _, _, _]) 2891 dL_law_2888 ki_7 rfl rfl rfl rfl ?_
  refine f_goto (M := mL_law) 23 dL_law_2891 rfl ?_
  rw [show Int32.ofNat (7 * N) + 7 = Int32.ofNat (7 * (N + 1)) from ix_add rfl kn_7]; exact hr
theorem law_41 (hlen : 7 * N + 7 ≤ Lw) (hLw : Lw ≤ 3584) (T : y_T N I L R) (hN : N < 512) (hc : c ≤ 233 + 4 * N) (hk : k ≤ 14655 + 24 * N) (hx : xs (7 * N) &&& 63 = Int32.ofNat 41) : y_Nx Lw xs N I L R c k w5 w6 w7 := by
  have sm : y_OL N (Lw, xs) mL_projectedDebt [.ref 0, .int (xs (7 * N + 1)), .ref 232] mX9_projectedDebt [.ref 225, .int (xs (7 * N + 1))] I L R := sim_projectedDebt (X := (Lw, xs)) T
  obtain ⟨k0, I1, L1, R1, v, I2, L2, h1, h2, ht, hv, T2⟩ := sm
  by_cases z : k0 = 0
  · refine ⟨I2, L2, R1, some (.int k0), some (.long v), none, c + 2, k + 12, T2, by omega, by omega, fun r hr => ?_⟩
    refine e_tsI (j := 41) 2589 dL_law_40 rfl (by rw [hx]; decide) (by decide) rfl rfl ?_
    refine f_aload_n (M := mL_law) 2590 dL_law_2589 rfl rfl ?_
    refine f_aload_n (M := mL_law) 2591 dL_law_2590 rfl rfl ?_
    refine f_iload (M := mL_law) 2593 dL_law_2591 rfl rfl ?_
    refine f_iconst (M := mL_law) 2594 dL_law_2593 ki_1 rfl ?_
    refine f_iadd (M := mL_law) 2595 dL_law_2594 rfl ?_
    refine e_iaf (M := mL_law) (w := Lw) (f := xs) (j := (7 * N) + (1)) dL_law_2595 (x_kk rfl) rfl (ix_add rfl kn_1) (by omega) (by omega) ?_
    refine f_aload_n (M := mL_law) 2597 dL_law_2596 rfl rfl ?_
    refine e_cS (M := mL_law) [_] (c + 2) (k + 12) dL_law_2597 pa_10302 cc_10302 rfl rfl rfl rfl rfl (show c + 2 ≤ 601024 by omega) (show k + 12 ≤ 7293034 by omega) rfl (h1) rfl ?_
    refine f_istore (M := mL_law) (ls' := [_, _, _, _, _, _, _, _]) 2602 dL_law_2600 rfl rfl rfl ?_
    refine f_aload_n (M := mL_law) 2603 dL_law_2602 rfl rfl ?_
    refine f_aload_n (M := mL_law) 2604 dL_law_2603 rfl rfl ?_
    refine f_iload (M := mL_law) 2606 dL_law_2604 rfl rfl ?_
    refine f_iconst (M := mL_law) 2607 dL_law_2606 ki_1 rfl ?_
    refine f_iadd (M := mL_law) 2608 dL_law_2607 rfl ?_
    refine e_iaf (M := mL_law) (w := Lw) (f := xs) (j := (7 * N) + (1)) dL_law_2608 (x_kk rfl) rfl (ix_add rfl kn_1) (by omega) (by omega) ?_
    refine e_cV (M := mL_law) [_] (c + 2) (k + 12) dL_law_2609 pa_10304 pb_10304 cc_10304 rfl rfl rfl rfl rfl (show c + 2 ≤ 601024 by omega) (show k + 12 ≤ 7293034 by omega) rfl (h2) rfl ?_
    refine f_lstore (M := mL_law) (ls' := [_, _, _, _, _, _, _, _]) 2614 dL_law_2612 rfl rfl rfl ?_
    refine f_aload_n (M := mL_law) 2615 dL_law_2614 rfl rfl ?_
    refine e_cV (M := mL_law) [_] (c + 2) (k + 12) dL_law_2615 pa_10163 pb_10163 cc_10163 rfl rfl rfl rfl rfl (show c + 2 ≤ 601024 by omega) (show k + 12 ≤ 7293034 by omega) rfl (c_X9_thrown) rfl ?_
    refine f_iload (M := mL_law) 2620 dL_law_2618 rfl rfl ?_
    refine e_icmp_eqT (M := mL_law) 2625 dL_law_2620 rfl ht ?_
    refine f_iload (M := mL_law) 2627 dL_law_2625 rfl rfl ?_
    refine e_if_neF (M := mL_law) 2641 dL_law_2627 rfl (fun q => q z) ?_
    refine f_aload_n (M := mL_law) 2631 dL_law_2630 rfl rfl ?_
    refine f_iconst (M := mL_law) 2632 dL_law_2631 ki_0 rfl ?_
    refine e_lld (M := mL_law) (w := 1) (j := 0) dL_law_2632 (x_kk rfl) rfl kn_0 (by omega) (by omega) ?_
    refine f_lload (M := mL_law) 2635 dL_law_2633 rfl rfl ?_
    refine f_lcmp (M := mL_law) 2636 dL_law_2635 rfl ?_
    refine e_if_eqT (M := mL_law) 2641 dL_law_2636 rfl (lc_eq.mpr (hv z)) ?_
    refine f_goto (M := mL_law) 2888 dL_law_2641 rfl ?_
    refine f_iinc (M := mL_law) (ls' := [_, _, _, _, _, _, _, _]) 2891 dL_law_2888 ki_7 rfl rfl rfl rfl ?_
    refine f_goto (M := mL_law) 23 dL_law_2891 rfl ?_
    rw [show Int32.ofNat (7 * N) + 7 = Int32.ofNat (7 * (N + 1)) from ix_add rfl kn_7]; exact hr
  · refine ⟨I2, L2, R1, some (.int k0), some (.long v), none, c + 2, k + 12, T2, by omega, by omega, fun r hr => ?_⟩
    refine e_tsI (j := 41) 2589 dL_law_40 rfl (by rw [hx]; decide) (by decide) rfl rfl ?_
    refine f_aload_n (M := mL_law) 2590 dL_law_2589 rfl rfl ?_
    refine f_aload_n (M := mL_law) 2591 dL_law_2590 rfl rfl ?_
    refine f_iload (M := mL_law) 2593 dL_law_2591 rfl rfl ?_
    refine f_iconst (M := mL_law) 2594 dL_law_2593 ki_1 rfl ?_
    refine f_iadd (M := mL_law) 2595 dL_law_2594 rfl ?_
    refine e_iaf (M := mL_law) (w := Lw) (f := xs) (j := (7 * N) + (1)) dL_law_2595 (x_kk rfl) rfl (ix_add rfl kn_1) (by omega) (by omega) ?_
    refine f_aload_n (M := mL_law) 2597 dL_law_2596 rfl rfl ?_
    refine e_cS (M := mL_law) [_] (c + 2) (k + 12) dL_law_2597 pa_10302 cc_10302 rfl rfl rfl rfl rfl (show c + 2 ≤ 601024 by omega) (show k + 12 ≤ 7293034 by omega) rfl (h1) rfl ?_
    refine f_istore (M := mL_law) (ls' := [_, _, _, _, _, _, _, _]) 2602 dL_law_2600 rfl rfl rfl ?_
    refine f_aload_n (M := mL_law) 2603 dL_law_2602 rfl rfl ?_
    refine f_aload_n (M := mL_law) 2604 dL_law_2603 rfl rfl ?_
    refine f_iload (M := mL_law) 2606 dL_law_2604 rfl rfl ?_
    refine f_iconst (M := mL_law) 2607 dL_law_2606 ki_1 rfl ?_
    refine f_iadd (M := mL_law) 2608 dL_law_2607 rfl ?_
    refine e_iaf (M := mL_law) (w := Lw) (f := xs) (j := (7 * N) + (1)) dL_law_2608 (x_kk rfl) rfl (ix_add rfl kn_1) (by omega) (by omega) ?_
    refine e_cV (M := mL_law) [_] (c + 2) (k + 12) dL_law_2609 pa_10304 pb_10304 cc_10304 rfl rfl rfl rfl rfl (show c + 2 ≤ 601024 by omega) (show k + 12 ≤ 7293034 by omega) rfl (h2) rfl ?_
    refine f_lstore (M := mL_law) (ls' := [_, _, _, _, _, _, _, _]) 2614 dL_law_2612 rfl rfl rfl ?_
    refine f_aload_n (M := mL_law) 2615 dL_law_2614 rfl rfl ?_
    refine e_cV (M := mL_law) [_] (c + 2) (k + 12) dL_law_2615 pa_10163 pb_10163 cc_10163 rfl rfl rfl rfl rfl (show c + 2 ≤ 601024 by omega) (show k + 12 ≤ 7293034 by omega) rfl (c_X9_thrown) rfl ?_
    refine f_iload (M := mL_law) 2620 dL_law_2618 rfl rfl ?_
    refine e_icmp_eqT (M := mL_law) 2625 dL_law_2620 rfl ht ?_
    refine f_iload (M := mL_law) 2627 dL_law_2625 rfl rfl ?_
    refine e_if_neT (M := mL_law) 2641 dL_law_2627 rfl z ?_
    refine f_goto (M := mL_law) 2888 dL_law_2641 rfl ?_
    refine f_iinc (M := mL_law) (ls' := [_, _, _, _, _, _, _, _]) 2891 dL_law_2888 ki_7 rfl rfl rfl rfl ?_
    refine f_goto (M := mL_law) 23 dL_law_2891 rfl ?_
    rw [show Int32.ofNat (7 * N) + 7 = Int32.ofNat (7 * (N + 1)) from ix_add rfl kn_7]; exact hr
theorem law_42 (hlen : 7 * N + 7 ≤ Lw) (hLw : Lw ≤ 3584) (T : y_T N I L R) (hN : N < 512) (hc : c ≤ 233 + 4 * N) (hk : k ≤ 14655 + 24 * N) (hx : xs (7 * N) &&& 63 = Int32.ofNat 42) : y_Nx Lw xs N I L R c k w5 w6 w7 := by
  have sm : y_DL N (Lw, xs) mX8_adjustment [.ref 0] mX9_adjustment [.ref 225] I L R := sim_adjustment (X := (Lw, xs)) T
  obtain ⟨v, I2, L2, h1, h2, T2⟩ := sm
  refine ⟨I2, L2, R, w5, w6, w7, c + 0, k + 0, T2, by omega, by omega, fun r hr => ?_⟩
  refine e_tsI (j := 42) 2644 dL_law_40 rfl (by rw [hx]; decide) (by decide) rfl rfl ?_
  refine f_aload_n (M := mL_law) 2645 dL_law_2644 rfl rfl ?_
  refine e_cV (M := mL_law) [_] (c + 0) (k + 0) dL_law_2645 pa_10305 pb_10305 cc_10305 rfl rfl rfl rfl rfl (show c + 0 ≤ 601024 by omega) (show k + 0 ≤ 7293034 by omega) rfl (h1) rfl ?_
  refine f_aload_n (M := mL_law) 2649 dL_law_2648 rfl rfl ?_
  refine e_cV (M := mL_law) [_, _] (c + 0) (k + 0) dL_law_2649 pa_10308 pb_10308 cc_10308 rfl rfl rfl rfl rfl (show c + 0 ≤ 601024 by omega) (show k + 0 ≤ 7293034 by omega) rfl (h2) rfl ?_
  refine f_lcmp (M := mL_law) 2653 dL_law_2652 rfl ?_
  refine e_if_eqT (M := mL_law) 2888 dL_law_2653 rfl (lc_eq.mpr rfl) ?_
  refine f_iinc (M := mL_law) (ls' := [_, _, _, _, _, _, _, _]) 2891 dL_law_2888 ki_7 rfl rfl rfl rfl ?_
  refine f_goto (M := mL_law) 23 dL_law_2891 rfl ?_
  rw [show Int32.ofNat (7 * N) + 7 = Int32.ofNat (7 * (N + 1)) from ix_add rfl kn_7]; exact hr
theorem law_43 (hlen : 7 * N + 7 ≤ Lw) (hLw : Lw ≤ 3584) (T : y_T N I L R) (hN : N < 512) (hc : c ≤ 233 + 4 * N) (hk : k ≤ 14655 + 24 * N) (hx : xs (7 * N) &&& 63 = Int32.ofNat 43) : y_Nx Lw xs N I L R c k w5 w6 w7 := by
  have sm : y_OL N (Lw, xs) mL_close [.ref 0, .ref 232] mX9_close [.ref 225] I L R := sim_close (X := (Lw, xs)) T
  obtain ⟨k0, I1, L1, R1, v, I2, L2, h1, h2, ht, hv, T2⟩ := sm
  by_cases z : k0 = 0
  · refine ⟨I2, L2, R1, some (.int k0), some (.long v), none, c + 1, k + 6, T2, by omega, by omega, fun r hr => ?_⟩
    refine e_tsI (j := 43) 2658 dL_law_40 rfl (by rw [hx]; decide) (by decide) rfl rfl ?_
    refine f_aload_n (M := mL_law) 2659 dL_law_2658 rfl rfl ?_
    refine f_aload_n (M := mL_law) 2660 dL_law_2659 rfl rfl ?_
    refine e_cS (M := mL_law) [_] (c + 1) (k + 6) dL_law_2660 pa_10309 cc_10309 rfl rfl rfl rfl rfl (show c + 1 ≤ 601024 by omega) (show k + 6 ≤ 7293034 by omega) rfl (h1) rfl ?_
    refine f_istore (M := mL_law) (ls' := [_, _, _, _, _, _, _, _]) 2665 dL_law_2663 rfl rfl rfl ?_
    refine f_aload_n (M := mL_law) 2666 dL_law_2665 rfl rfl ?_
    refine e_cV (M := mL_law) [_] (c + 1) (k + 6) dL_law_2666 pa_10311 pb_10311 cc_10311 rfl rfl rfl rfl rfl (show c + 1 ≤ 601024 by omega) (show k + 6 ≤ 7293034 by omega) rfl (h2) rfl ?_
    refine f_lstore (M := mL_law) (ls' := [_, _, _, _, _, _, _, _]) 2671 dL_law_2669 rfl rfl rfl ?_
    refine f_aload_n (M := mL_law) 2672 dL_law_2671 rfl rfl ?_
    refine e_cV (M := mL_law) [_] (c + 1) (k + 6) dL_law_2672 pa_10163 pb_10163 cc_10163 rfl rfl rfl rfl rfl (show c + 1 ≤ 601024 by omega) (show k + 6 ≤ 7293034 by omega) rfl (c_X9_thrown) rfl ?_
    refine f_iload (M := mL_law) 2677 dL_law_2675 rfl rfl ?_
    refine e_icmp_eqT (M := mL_law) 2682 dL_law_2677 rfl ht ?_
    refine f_iload (M := mL_law) 2684 dL_law_2682 rfl rfl ?_
    refine e_if_neF (M := mL_law) 2698 dL_law_2684 rfl (fun q => q z) ?_
    refine f_aload_n (M := mL_law) 2688 dL_law_2687 rfl rfl ?_
    refine f_iconst (M := mL_law) 2689 dL_law_2688 ki_0 rfl ?_
    refine e_lld (M := mL_law) (w := 1) (j := 0) dL_law_2689 (x_kk rfl) rfl kn_0 (by omega) (by omega) ?_
    refine f_lload (M := mL_law) 2692 dL_law_2690 rfl rfl ?_
    refine f_lcmp (M := mL_law) 2693 dL_law_2692 rfl ?_
    refine e_if_eqT (M := mL_law) 2698 dL_law_2693 rfl (lc_eq.mpr (hv z)) ?_
    refine f_goto (M := mL_law) 2888 dL_law_2698 rfl ?_
    refine f_iinc (M := mL_law) (ls' := [_, _, _, _, _, _, _, _]) 2891 dL_law_2888 ki_7 rfl rfl rfl rfl ?_
    refine f_goto (M := mL_law) 23 dL_law_2891 rfl ?_
    rw [show Int32.ofNat (7 * N) + 7 = Int32.ofNat (7 * (N + 1)) from ix_add rfl kn_7]; exact hr
  · refine ⟨I2, L2, R1, some (.int k0), some (.long v), none, c + 1, k + 6, T2, by omega, by omega, fun r hr => ?_⟩
    refine e_tsI (j := 43) 2658 dL_law_40 rfl (by rw [hx]; decide) (by decide) rfl rfl ?_
    refine f_aload_n (M := mL_law) 2659 dL_law_2658 rfl rfl ?_
    refine f_aload_n (M := mL_law) 2660 dL_law_2659 rfl rfl ?_
    refine e_cS (M := mL_law) [_] (c + 1) (k + 6) dL_law_2660 pa_10309 cc_10309 rfl rfl rfl rfl rfl (show c + 1 ≤ 601024 by omega) (show k + 6 ≤ 7293034 by omega) rfl (h1) rfl ?_
    refine f_istore (M := mL_law) (ls' := [_, _, _, _, _, _, _, _]) 2665 dL_law_2663 rfl rfl rfl ?_
    refine f_aload_n (M := mL_law) 2666 dL_law_2665 rfl rfl ?_
    refine e_cV (M := mL_law) [_] (c + 1) (k + 6) dL_law_2666 pa_10311 pb_10311 cc_10311 rfl rfl rfl rfl rfl (show c + 1 ≤ 601024 by omega) (show k + 6 ≤ 7293034 by omega) rfl (h2) rfl ?_
    refine f_lstore (M := mL_law) (ls' := [_, _, _, _, _, _, _, _]) 2671 dL_law_2669 rfl rfl rfl ?_
    refine f_aload_n (M := mL_law) 2672 dL_law_2671 rfl rfl ?_
    refine e_cV (M := mL_law) [_] (c + 1) (k + 6) dL_law_2672 pa_10163 pb_10163 cc_10163 rfl rfl rfl rfl rfl (show c + 1 ≤ 601024 by omega) (show k + 6 ≤ 7293034 by omega) rfl (c_X9_thrown) rfl ?_
    refine f_iload (M := mL_law) 2677 dL_law_2675 rfl rfl ?_
    refine e_icmp_eqT (M := mL_law) 2682 dL_law_2677 rfl ht ?_
    refine f_iload (M := mL_law) 2684 dL_law_2682 rfl rfl ?_
    refine e_if_neT (M := mL_law) 2698 dL_law_2684 rfl z ?_
    refine f_goto (M := mL_law) 2888 dL_law_2698 rfl ?_
    refine f_iinc (M := mL_law) (ls' := [_, _, _, _, _, _, _, _]) 2891 dL_law_2888 ki_7 rfl rfl rfl rfl ?_
    refine f_goto (M := mL_law) 23 dL_law_2891 rfl ?_
    rw [show Int32.ofNat (7 * N) + 7 = Int32.ofNat (7 * (N + 1)) from ix_add rfl kn_7]; exact hr
theorem law_44 (hlen : 7 * N + 7 ≤ Lw) (hLw : Lw ≤ 3584) (T : y_T N I L R) (hN : N < 512) (hc : c ≤ 233 + 4 * N) (hk : k ≤ 14655 + 24 * N) (hx : xs (7 * N) &&& 63 = Int32.ofNat 44) : y_Nx Lw xs N I L R c k w5 w6 w7 := by
  have sm : y_OI N (Lw, xs) mL_remaining [.ref 0, .int (xs (7 * N + 1)), .ref 232] mX9_remaining [.ref 225, .int (xs (7 * N + 1))] I L R := sim_remaining (X := (Lw, xs)) T
  obtain ⟨k0, I1, L1, R1, v, I2, L2, h1, h2, ht, hv, T2⟩ := sm
  by_cases z : k0 = 0
  · refine ⟨I2, L2, R1, some (.int k0), some (.int v), w7, c + 2, k + 12, T2, by omega, by omega, fun r hr => ?_⟩
    refine e_tsI (j := 44) 2701 dL_law_40 rfl (by rw [hx]; decide) (by decide) rfl rfl ?_
    refine f_aload_n (M := mL_law) 2702 dL_law_2701 rfl rfl ?_
    refine f_aload_n (M := mL_law) 2703 dL_law_2702 rfl rfl ?_
    refine f_iload (M := mL_law) 2705 dL_law_2703 rfl rfl ?_
    refine f_iconst (M := mL_law) 2706 dL_law_2705 ki_1 rfl ?_
    refine f_iadd (M := mL_law) 2707 dL_law_2706 rfl ?_
    refine e_iaf (M := mL_law) (w := Lw) (f := xs) (j := (7 * N) + (1)) dL_law_2707 (x_kk rfl) rfl (ix_add rfl kn_1) (by omega) (by omega) ?_
    refine f_aload_n (M := mL_law) 2709 dL_law_2708 rfl rfl ?_
    refine e_cS (M := mL_law) [_] (c + 2) (k + 12) dL_law_2709 pa_10312 cc_10312 rfl rfl rfl rfl rfl (show c + 2 ≤ 601024 by omega) (show k + 12 ≤ 7293034 by omega) rfl (h1) rfl ?_
    refine f_istore (M := mL_law) (ls' := [_, _, _, _, _, _, _, _]) 2714 dL_law_2712 rfl rfl rfl ?_
    refine f_aload_n (M := mL_law) 2715 dL_law_2714 rfl rfl ?_
    refine f_aload_n (M := mL_law) 2716 dL_law_2715 rfl rfl ?_
    refine f_iload (M := mL_law) 2718 dL_law_2716 rfl rfl ?_
    refine f_iconst (M := mL_law) 2719 dL_law_2718 ki_1 rfl ?_
    refine f_iadd (M := mL_law) 2720 dL_law_2719 rfl ?_
    refine e_iaf (M := mL_law) (w := Lw) (f := xs) (j := (7 * N) + (1)) dL_law_2720 (x_kk rfl) rfl (ix_add rfl kn_1) (by omega) (by omega) ?_
    refine e_cV (M := mL_law) [_] (c + 2) (k + 12) dL_law_2721 pa_10314 pb_10314 cc_10314 rfl rfl rfl rfl rfl (show c + 2 ≤ 601024 by omega) (show k + 12 ≤ 7293034 by omega) rfl (h2) rfl ?_
    refine f_istore (M := mL_law) (ls' := [_, _, _, _, _, _, _, _]) 2726 dL_law_2724 rfl rfl rfl ?_
    refine f_aload_n (M := mL_law) 2727 dL_law_2726 rfl rfl ?_
    refine e_cV (M := mL_law) [_] (c + 2) (k + 12) dL_law_2727 pa_10163 pb_10163 cc_10163 rfl rfl rfl rfl rfl (show c + 2 ≤ 601024 by omega) (show k + 12 ≤ 7293034 by omega) rfl (c_X9_thrown) rfl ?_
    refine f_iload (M := mL_law) 2732 dL_law_2730 rfl rfl ?_
    refine e_icmp_eqT (M := mL_law) 2737 dL_law_2732 rfl ht ?_
    refine f_iload (M := mL_law) 2739 dL_law_2737 rfl rfl ?_
    refine e_if_neF (M := mL_law) 2754 dL_law_2739 rfl (fun q => q z) ?_
    refine f_aload_n (M := mL_law) 2743 dL_law_2742 rfl rfl ?_
    refine f_iconst (M := mL_law) 2744 dL_law_2743 ki_0 rfl ?_
    refine e_lld (M := mL_law) (w := 1) (j := 0) dL_law_2744 (x_kk rfl) rfl kn_0 (by omega) (by omega) ?_
    refine f_iload (M := mL_law) 2747 dL_law_2745 rfl rfl ?_
    refine f_i2l (M := mL_law) 2748 dL_law_2747 rfl ?_
    refine f_lcmp (M := mL_law) 2749 dL_law_2748 rfl ?_
    refine e_if_eqT (M := mL_law) 2754 dL_law_2749 rfl (lc_eq.mpr (hv z)) ?_
    refine f_goto (M := mL_law) 2888 dL_law_2754 rfl ?_
    refine f_iinc (M := mL_law) (ls' := [_, _, _, _, _, _, _, _]) 2891 dL_law_2888 ki_7 rfl rfl rfl rfl ?_
    refine f_goto (M := mL_law) 23 dL_law_2891 rfl ?_
    rw [show Int32.ofNat (7 * N) + 7 = Int32.ofNat (7 * (N + 1)) from ix_add rfl kn_7]; exact hr
  · refine ⟨I2, L2, R1, some (.int k0), some (.int v), w7, c + 2, k + 12, T2, by omega, by omega, fun r hr => ?_⟩
    refine e_tsI (j := 44) 2701 dL_law_40 rfl (by rw [hx]; decide) (by decide) rfl rfl ?_
    refine f_aload_n (M := mL_law) 2702 dL_law_2701 rfl rfl ?_
    refine f_aload_n (M := mL_law) 2703 dL_law_2702 rfl rfl ?_
    refine f_iload (M := mL_law) 2705 dL_law_2703 rfl rfl ?_
    refine f_iconst (M := mL_law) 2706 dL_law_2705 ki_1 rfl ?_
    refine f_iadd (M := mL_law) 2707 dL_law_2706 rfl ?_
    refine e_iaf (M := mL_law) (w := Lw) (f := xs) (j := (7 * N) + (1)) dL_law_2707 (x_kk rfl) rfl (ix_add rfl kn_1) (by omega) (by omega) ?_
    refine f_aload_n (M := mL_law) 2709 dL_law_2708 rfl rfl ?_
    refine e_cS (M := mL_law) [_] (c + 2) (k + 12) dL_law_2709 pa_10312 cc_10312 rfl rfl rfl rfl rfl (show c + 2 ≤ 601024 by omega) (show k + 12 ≤ 7293034 by omega) rfl (h1) rfl ?_
    refine f_istore (M := mL_law) (ls' := [_, _, _, _, _, _, _, _]) 2714 dL_law_2712 rfl rfl rfl ?_
    refine f_aload_n (M := mL_law) 2715 dL_law_2714 rfl rfl ?_
    refine f_aload_n (M := mL_law) 2716 dL_law_2715 rfl rfl ?_
    refine f_iload (M := mL_law) 2718 dL_law_2716 rfl rfl ?_
    refine f_iconst (M := mL_law) 2719 dL_law_2718 ki_1 rfl ?_
    refine f_iadd (M := mL_law) 2720 dL_law_2719 rfl ?_
    refine e_iaf (M := mL_law) (w := Lw) (f := xs) (j := (7 * N) + (1)) dL_law_2720 (x_kk rfl) rfl (ix_add rfl kn_1) (by omega) (by omega) ?_
    refine e_cV (M := mL_law) [_] (c + 2) (k + 12) dL_law_2721 pa_10314 pb_10314 cc_10314 rfl rfl rfl rfl rfl (show c + 2 ≤ 601024 by omega) (show k + 12 ≤ 7293034 by omega) rfl (h2) rfl ?_
    refine f_istore (M := mL_law) (ls' := [_, _, _, _, _, _, _, _]) 2726 dL_law_2724 rfl rfl rfl ?_
    refine f_aload_n (M := mL_law) 2727 dL_law_2726 rfl rfl ?_
    refine e_cV (M := mL_law) [_] (c + 2) (k + 12) dL_law_2727 pa_10163 pb_10163 cc_10163 rfl rfl rfl rfl rfl (show c + 2 ≤ 601024 by omega) (show k + 12 ≤ 7293034 by omega) rfl (c_X9_thrown) rfl ?_
    refine f_iload (M := mL_law) 2732 dL_law_2730 rfl rfl ?_
    refine e_icmp_eqT (M := mL_law) 2737 dL_law_2732 rfl ht ?_
    refine f_iload (M := mL_law) 2739 dL_law_2737 rfl rfl ?_
    refine e_if_neT (M := mL_law) 2754 dL_law_2739 rfl z ?_
    refine f_goto (M := mL_law) 2888 dL_law_2754 rfl ?_
    refine f_iinc (M := mL_law) (ls' := [_, _, _, _, _, _, _, _]) 2891 dL_law_2888 ki_7 rfl rfl rfl rfl ?_
    refine f_goto (M := mL_law) 23 dL_law_2891 rfl ?_
    rw [show Int32.ofNat (7 * N) + 7 = Int32.ofNat (7 * (N + 1)) from ix_add rfl kn_7]; exact hr
theorem law_45 (hlen : 7 * N + 7 ≤ Lw) (hLw : Lw ≤ 3584) (T : y_T N I L R) (hN : N < 512) (hc : c ≤ 233 + 4 * N) (hk : k ≤ 14655 + 24 * N) (hx : xs (7 * N) &&& 63 = Int32.ofNat 45) : y_Nx Lw xs N I L R c k w5 w6 w7 := by
  have sm : y_OI N (Lw, xs) mL_declareDefault [.ref 0, .ref 232] mX9_declareDefault [.ref 225] I L R := sim_declareDefault (X := (Lw, xs)) T
  obtain ⟨k0, I1, L1, R1, v, I2, L2, h1, h2, ht, hv, T2⟩ := sm
  by_cases z : k0 = 0
  · refine ⟨I2, L2, R1, some (.int k0), some (.int v), w7, c + 1, k + 6, T2, by omega, by omega, fun r hr => ?_⟩
    refine e_tsI (j := 45) 2757 dL_law_40 rfl (by rw [hx]; decide) (by decide) rfl rfl ?_
    refine f_aload_n (M := mL_law) 2758 dL_law_2757 rfl rfl ?_
    refine f_aload_n (M := mL_law) 2759 dL_law_2758 rfl rfl ?_
    refine e_cS (M := mL_law) [_] (c + 1) (k + 6) dL_law_2759 pa_10315 cc_10315 rfl rfl rfl rfl rfl (show c + 1 ≤ 601024 by omega) (show k + 6 ≤ 7293034 by omega) rfl (h1) rfl ?_
    refine f_istore (M := mL_law) (ls' := [_, _, _, _, _, _, _, _]) 2764 dL_law_2762 rfl rfl rfl ?_
    refine f_aload_n (M := mL_law) 2765 dL_law_2764 rfl rfl ?_
    refine e_cV (M := mL_law) [_] (c + 1) (k + 6) dL_law_2765 pa_10317 pb_10317 cc_10317 rfl rfl rfl rfl rfl (show c + 1 ≤ 601024 by omega) (show k + 6 ≤ 7293034 by omega) rfl (h2) rfl ?_
    refine f_istore (M := mL_law) (ls' := [_, _, _, _, _, _, _, _]) 2770 dL_law_2768 rfl rfl rfl ?_
    refine f_aload_n (M := mL_law) 2771 dL_law_2770 rfl rfl ?_
    refine e_cV (M := mL_law) [_] (c + 1) (k + 6) dL_law_2771 pa_10163 pb_10163 cc_10163 rfl rfl rfl rfl rfl (show c + 1 ≤ 601024 by omega) (show k + 6 ≤ 7293034 by omega) rfl (c_X9_thrown) rfl ?_
    refine f_iload (M := mL_law) 2776 dL_law_2774 rfl rfl ?_
    refine e_icmp_eqT (M := mL_law) 2781 dL_law_2776 rfl ht ?_
    refine f_iload (M := mL_law) 2783 dL_law_2781 rfl rfl ?_
    refine e_if_neF (M := mL_law) 2798 dL_law_2783 rfl (fun q => q z) ?_
    refine f_aload_n (M := mL_law) 2787 dL_law_2786 rfl rfl ?_
    refine f_iconst (M := mL_law) 2788 dL_law_2787 ki_0 rfl ?_
    refine e_lld (M := mL_law) (w := 1) (j := 0) dL_law_2788 (x_kk rfl) rfl kn_0 (by omega) (by omega) ?_
    refine f_iload (M := mL_law) 2791 dL_law_2789 rfl rfl ?_
    refine f_i2l (M := mL_law) 2792 dL_law_2791 rfl ?_
    refine f_lcmp (M := mL_law) 2793 dL_law_2792 rfl ?_
    refine e_if_eqT (M := mL_law) 2798 dL_law_2793 rfl (lc_eq.mpr (hv z)) ?_
    refine f_goto (M := mL_law) 2888 dL_law_2798 rfl ?_
    refine f_iinc (M := mL_law) (ls' := [_, _, _, _, _, _, _, _]) 2891 dL_law_2888 ki_7 rfl rfl rfl rfl ?_
    refine f_goto (M := mL_law) 23 dL_law_2891 rfl ?_
    rw [show Int32.ofNat (7 * N) + 7 = Int32.ofNat (7 * (N + 1)) from ix_add rfl kn_7]; exact hr
  · refine ⟨I2, L2, R1, some (.int k0), some (.int v), w7, c + 1, k + 6, T2, by omega, by omega, fun r hr => ?_⟩
    refine e_tsI (j := 45) 2757 dL_law_40 rfl (by rw [hx]; decide) (by decide) rfl rfl ?_
    refine f_aload_n (M := mL_law) 2758 dL_law_2757 rfl rfl ?_
    refine f_aload_n (M := mL_law) 2759 dL_law_2758 rfl rfl ?_
    refine e_cS (M := mL_law) [_] (c + 1) (k + 6) dL_law_2759 pa_10315 cc_10315 rfl rfl rfl rfl rfl (show c + 1 ≤ 601024 by omega) (show k + 6 ≤ 7293034 by omega) rfl (h1) rfl ?_
    refine f_istore (M := mL_law) (ls' := [_, _, _, _, _, _, _, _]) 2764 dL_law_2762 rfl rfl rfl ?_
    refine f_aload_n (M := mL_law) 2765 dL_law_2764 rfl rfl ?_
    refine e_cV (M := mL_law) [_] (c + 1) (k + 6) dL_law_2765 pa_10317 pb_10317 cc_10317 rfl rfl rfl rfl rfl (show c + 1 ≤ 601024 by omega) (show k + 6 ≤ 7293034 by omega) rfl (h2) rfl ?_
    refine f_istore (M := mL_law) (ls' := [_, _, _, _, _, _, _, _]) 2770 dL_law_2768 rfl rfl rfl ?_
    refine f_aload_n (M := mL_law) 2771 dL_law_2770 rfl rfl ?_
    refine e_cV (M := mL_law) [_] (c + 1) (k + 6) dL_law_2771 pa_10163 pb_10163 cc_10163 rfl rfl rfl rfl rfl (show c + 1 ≤ 601024 by omega) (show k + 6 ≤ 7293034 by omega) rfl (c_X9_thrown) rfl ?_
    refine f_iload (M := mL_law) 2776 dL_law_2774 rfl rfl ?_
    refine e_icmp_eqT (M := mL_law) 2781 dL_law_2776 rfl ht ?_
    refine f_iload (M := mL_law) 2783 dL_law_2781 rfl rfl ?_
    refine e_if_neT (M := mL_law) 2798 dL_law_2783 rfl z ?_
    refine f_goto (M := mL_law) 2888 dL_law_2798 rfl ?_
    refine f_iinc (M := mL_law) (ls' := [_, _, _, _, _, _, _, _]) 2891 dL_law_2888 ki_7 rfl rfl rfl rfl ?_
    refine f_goto (M := mL_law) 23 dL_law_2891 rfl ?_
    rw [show Int32.ofNat (7 * N) + 7 = Int32.ofNat (7 * (N + 1)) from ix_add rfl kn_7]; exact hr
theorem law_46 (hlen : 7 * N + 7 ≤ Lw) (hLw : Lw ≤ 3584) (T : y_T N I L R) (hN : N < 512) (hc : c ≤ 233 + 4 * N) (hk : k ≤ 14655 + 24 * N) (hx : xs (7 * N) &&& 63 = Int32.ofNat 46) : y_Nx Lw xs N I L R c k w5 w6 w7 := by
  have sm : y_OL N (Lw, xs) mL_damages [.ref 0, .ref 232] mX9_damages [.ref 225] I L R := sim_damages (X := (Lw, xs)) T
  obtain ⟨k0, I1, L1, R1, v, I2, L2, h1, h2, ht, hv, T2⟩ := sm
  by_cases z : k0 = 0
  · refine ⟨I2, L2, R1, some (.int k0), some (.long v), none, c + 1, k + 6, T2, by omega, by omega, fun r hr => ?_⟩
    refine e_tsI (j := 46) 2801 dL_law_40 rfl (by rw [hx]; decide) (by decide) rfl rfl ?_
    refine f_aload_n (M := mL_law) 2802 dL_law_2801 rfl rfl ?_
    refine f_aload_n (M := mL_law) 2803 dL_law_2802 rfl rfl ?_
    refine e_cS (M := mL_law) [_] (c + 1) (k + 6) dL_law_2803 pa_10318 cc_10318 rfl rfl rfl rfl rfl (show c + 1 ≤ 601024 by omega) (show k + 6 ≤ 7293034 by omega) rfl (h1) rfl ?_
    refine f_istore (M := mL_law) (ls' := [_, _, _, _, _, _, _, _]) 2808 dL_law_2806 rfl rfl rfl ?_
    refine f_aload_n (M := mL_law) 2809 dL_law_2808 rfl rfl ?_
    refine e_cV (M := mL_law) [_] (c + 1) (k + 6) dL_law_2809 pa_10320 pb_10320 cc_10320 rfl rfl rfl rfl rfl (show c + 1 ≤ 601024 by omega) (show k + 6 ≤ 7293034 by omega) rfl (h2) rfl ?_
    refine f_lstore (M := mL_law) (ls' := [_, _, _, _, _, _, _, _]) 2814 dL_law_2812 rfl rfl rfl ?_
    refine f_aload_n (M := mL_law) 2815 dL_law_2814 rfl rfl ?_
    refine e_cV (M := mL_law) [_] (c + 1) (k + 6) dL_law_2815 pa_10163 pb_10163 cc_10163 rfl rfl rfl rfl rfl (show c + 1 ≤ 601024 by omega) (show k + 6 ≤ 7293034 by omega) rfl (c_X9_thrown) rfl ?_
    refine f_iload (M := mL_law) 2820 dL_law_2818 rfl rfl ?_
    refine e_icmp_eqT (M := mL_law) 2825 dL_law_2820 rfl ht ?_
    refine f_iload (M := mL_law) 2827 dL_law_2825 rfl rfl ?_
    refine e_if_neF (M := mL_law) 2841 dL_law_2827 rfl (fun q => q z) ?_
    refine f_aload_n (M := mL_law) 2831 dL_law_2830 rfl rfl ?_
    refine f_iconst (M := mL_law) 2832 dL_law_2831 ki_0 rfl ?_
    refine e_lld (M := mL_law) (w := 1) (j := 0) dL_law_2832 (x_kk rfl) rfl kn_0 (by omega) (by omega) ?_
    refine f_lload (M := mL_law) 2835 dL_law_2833 rfl rfl ?_
    refine f_lcmp (M := mL_law) 2836 dL_law_2835 rfl ?_
    refine e_if_eqT (M := mL_law) 2841 dL_law_2836 rfl (lc_eq.mpr (hv z)) ?_
    refine f_goto (M := mL_law) 2888 dL_law_2841 rfl ?_
    refine f_iinc (M := mL_law) (ls' := [_, _, _, _, _, _, _, _]) 2891 dL_law_2888 ki_7 rfl rfl rfl rfl ?_
    refine f_goto (M := mL_law) 23 dL_law_2891 rfl ?_
    rw [show Int32.ofNat (7 * N) + 7 = Int32.ofNat (7 * (N + 1)) from ix_add rfl kn_7]; exact hr
  · refine ⟨I2, L2, R1, some (.int k0), some (.long v), none, c + 1, k + 6, T2, by omega, by omega, fun r hr => ?_⟩
    refine e_tsI (j := 46) 2801 dL_law_40 rfl (by rw [hx]; decide) (by decide) rfl rfl ?_
    refine f_aload_n (M := mL_law) 2802 dL_law_2801 rfl rfl ?_
    refine f_aload_n (M := mL_law) 2803 dL_law_2802 rfl rfl ?_
    refine e_cS (M := mL_law) [_] (c + 1) (k + 6) dL_law_2803 pa_10318 cc_10318 rfl rfl rfl rfl rfl (show c + 1 ≤ 601024 by omega) (show k + 6 ≤ 7293034 by omega) rfl (h1) rfl ?_
    refine f_istore (M := mL_law) (ls' := [_, _, _, _, _, _, _, _]) 2808 dL_law_2806 rfl rfl rfl ?_
    refine f_aload_n (M := mL_law) 2809 dL_law_2808 rfl rfl ?_
    refine e_cV (M := mL_law) [_] (c + 1) (k + 6) dL_law_2809 pa_10320 pb_10320 cc_10320 rfl rfl rfl rfl rfl (show c + 1 ≤ 601024 by omega) (show k + 6 ≤ 7293034 by omega) rfl (h2) rfl ?_
    refine f_lstore (M := mL_law) (ls' := [_, _, _, _, _, _, _, _]) 2814 dL_law_2812 rfl rfl rfl ?_
    refine f_aload_n (M := mL_law) 2815 dL_law_2814 rfl rfl ?_
    refine e_cV (M := mL_law) [_] (c + 1) (k + 6) dL_law_2815 pa_10163 pb_10163 cc_10163 rfl rfl rfl rfl rfl (show c + 1 ≤ 601024 by omega) (show k + 6 ≤ 7293034 by omega) rfl (c_X9_thrown) rfl ?_
    refine f_iload (M := mL_law) 2820 dL_law_2818 rfl rfl ?_
    refine e_icmp_eqT (M := mL_law) 2825 dL_law_2820 rfl ht ?_
    refine f_iload (M := mL_law) 2827 dL_law_2825 rfl rfl ?_
    refine e_if_neT (M := mL_law) 2841 dL_law_2827 rfl z ?_
    refine f_goto (M := mL_law) 2888 dL_law_2841 rfl ?_
    refine f_iinc (M := mL_law) (ls' := [_, _, _, _, _, _, _, _]) 2891 dL_law_2888 ki_7 rfl rfl rfl rfl ?_
    refine f_goto (M := mL_law) 23 dL_law_2891 rfl ?_
    rw [show Int32.ofNat (7 * N) + 7 = Int32.ofNat (7 * (N + 1)) from ix_add rfl kn_7]; exact hr
theorem law_47 (hlen : 7 * N + 7 ≤ Lw) (hLw : Lw ≤ 3584) (T : y_T N I L R) (hN : N < 512) (hc : c ≤ 233 + 4 * N) (hk : k ≤ 14655 + 24 * N) (hx : xs (7 * N) &&& 63 = Int32.ofNat 47) : y_Nx Lw xs N I L R c k w5 w6 w7 := by
  have sm : y_OI N (Lw, xs) mL_undo [.ref 0, .ref 232] mX9_undo [.ref 225] I L R := sim_undo (X := (Lw, xs)) T
  obtain ⟨k0, I1, L1, R1, v, I2, L2, h1, h2, ht, hv, T2⟩ := sm
  by_cases z : k0 = 0
  · refine ⟨I2, L2, R1, some (.int k0), some (.int v), w7, c + 1, k + 6, T2, by omega, by omega, fun r hr => ?_⟩
    refine e_tsI (j := 47) 2844 dL_law_40 rfl (by rw [hx]; decide) (by decide) rfl rfl ?_
    refine f_aload_n (M := mL_law) 2845 dL_law_2844 rfl rfl ?_
    refine f_aload_n (M := mL_law) 2846 dL_law_2845 rfl rfl ?_
    refine e_cS (M := mL_law) [_] (c + 1) (k + 6) dL_law_2846 pa_10321 cc_10321 rfl rfl rfl rfl rfl (show c + 1 ≤ 601024 by omega) (show k + 6 ≤ 7293034 by omega) rfl (h1) rfl ?_
    refine f_istore (M := mL_law) (ls' := [_, _, _, _, _, _, _, _]) 2851 dL_law_2849 rfl rfl rfl ?_
    refine f_aload_n (M := mL_law) 2852 dL_law_2851 rfl rfl ?_
    refine e_cV (M := mL_law) [_] (c + 1) (k + 6) dL_law_2852 pa_10323 pb_10323 cc_10323 rfl rfl rfl rfl rfl (show c + 1 ≤ 601024 by omega) (show k + 6 ≤ 7293034 by omega) rfl (h2) rfl ?_
    refine f_istore (M := mL_law) (ls' := [_, _, _, _, _, _, _, _]) 2857 dL_law_2855 rfl rfl rfl ?_
    refine f_aload_n (M := mL_law) 2858 dL_law_2857 rfl rfl ?_
    refine e_cV (M := mL_law) [_] (c + 1) (k + 6) dL_law_2858 pa_10163 pb_10163 cc_10163 rfl rfl rfl rfl rfl (show c + 1 ≤ 601024 by omega) (show k + 6 ≤ 7293034 by omega) rfl (c_X9_thrown) rfl ?_
    refine f_iload (M := mL_law) 2863 dL_law_2861 rfl rfl ?_
    refine e_icmp_eqT (M := mL_law) 2868 dL_law_2863 rfl ht ?_
    refine f_iload (M := mL_law) 2870 dL_law_2868 rfl rfl ?_
    refine e_if_neF (M := mL_law) 2885 dL_law_2870 rfl (fun q => q z) ?_
    refine f_aload_n (M := mL_law) 2874 dL_law_2873 rfl rfl ?_
    refine f_iconst (M := mL_law) 2875 dL_law_2874 ki_0 rfl ?_
    refine e_lld (M := mL_law) (w := 1) (j := 0) dL_law_2875 (x_kk rfl) rfl kn_0 (by omega) (by omega) ?_
    refine f_iload (M := mL_law) 2878 dL_law_2876 rfl rfl ?_
    refine f_i2l (M := mL_law) 2879 dL_law_2878 rfl ?_
    refine f_lcmp (M := mL_law) 2880 dL_law_2879 rfl ?_
    refine e_if_eqT (M := mL_law) 2885 dL_law_2880 rfl (lc_eq.mpr (hv z)) ?_
    refine f_goto (M := mL_law) 2888 dL_law_2885 rfl ?_
    refine f_iinc (M := mL_law) (ls' := [_, _, _, _, _, _, _, _]) 2891 dL_law_2888 ki_7 rfl rfl rfl rfl ?_
    refine f_goto (M := mL_law) 23 dL_law_2891 rfl ?_
    rw [show Int32.ofNat (7 * N) + 7 = Int32.ofNat (7 * (N + 1)) from ix_add rfl kn_7]; exact hr
  · refine ⟨I2, L2, R1, some (.int k0), some (.int v), w7, c + 1, k + 6, T2, by omega, by omega, fun r hr => ?_⟩
    refine e_tsI (j := 47) 2844 dL_law_40 rfl (by rw [hx]; decide) (by decide) rfl rfl ?_
    refine f_aload_n (M := mL_law) 2845 dL_law_2844 rfl rfl ?_
    refine f_aload_n (M := mL_law) 2846 dL_law_2845 rfl rfl ?_
    refine e_cS (M := mL_law) [_] (c + 1) (k + 6) dL_law_2846 pa_10321 cc_10321 rfl rfl rfl rfl rfl (show c + 1 ≤ 601024 by omega) (show k + 6 ≤ 7293034 by omega) rfl (h1) rfl ?_
    refine f_istore (M := mL_law) (ls' := [_, _, _, _, _, _, _, _]) 2851 dL_law_2849 rfl rfl rfl ?_
    refine f_aload_n (M := mL_law) 2852 dL_law_2851 rfl rfl ?_
    refine e_cV (M := mL_law) [_] (c + 1) (k + 6) dL_law_2852 pa_10323 pb_10323 cc_10323 rfl rfl rfl rfl rfl (show c + 1 ≤ 601024 by omega) (show k + 6 ≤ 7293034 by omega) rfl (h2) rfl ?_
    refine f_istore (M := mL_law) (ls' := [_, _, _, _, _, _, _, _]) 2857 dL_law_2855 rfl rfl rfl ?_
    refine f_aload_n (M := mL_law) 2858 dL_law_2857 rfl rfl ?_
    refine e_cV (M := mL_law) [_] (c + 1) (k + 6) dL_law_2858 pa_10163 pb_10163 cc_10163 rfl rfl rfl rfl rfl (show c + 1 ≤ 601024 by omega) (show k + 6 ≤ 7293034 by omega) rfl (c_X9_thrown) rfl ?_
    refine f_iload (M := mL_law) 2863 dL_law_2861 rfl rfl ?_
    refine e_icmp_eqT (M := mL_law) 2868 dL_law_2863 rfl ht ?_
    refine f_iload (M := mL_law) 2870 dL_law_2868 rfl rfl ?_
    refine e_if_neT (M := mL_law) 2885 dL_law_2870 rfl z ?_
    refine f_goto (M := mL_law) 2888 dL_law_2885 rfl ?_
    refine f_iinc (M := mL_law) (ls' := [_, _, _, _, _, _, _, _]) 2891 dL_law_2888 ki_7 rfl rfl rfl rfl ?_
    refine f_goto (M := mL_law) 23 dL_law_2891 rfl ?_
    rw [show Int32.ofNat (7 * N) + 7 = Int32.ofNat (7 * (N + 1)) from ix_add rfl kn_7]; exact hr
end
end

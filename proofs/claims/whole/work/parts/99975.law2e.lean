/-! ===== the law, second: cases 36 to 47 (laid by wip/whole/src/law2.py) ===== -/
section
variable {X : x_X} {I : Nat → Nat → Int32} {L : Nat → Nat → Int64} {R : Nat → Nat → Option Nat} {N : Nat}
section
variable {Lw c k : Nat} {xs : Nat → Int32} {w5 w6 w7 : Option Value}
theorem lk_36 (hlen : 7 * N + 7 ≤ Lw) (hLw : Lw ≤ 3584) (T : y_T N I L R) (hN : N < 512) (hc : c ≤ 233 + 4 * N) (hk : k ≤ 14655 + 24 * N) (hx : xs (7 * N) &&& 63 = Int32.ofNat 36) : y_Nx Lw xs N I L R c k w5 w6 w7 := by
  have sm : y_DI N (Lw, xs) mX8_month [.ref 0] mX9_month [.ref 225] I L R := sim_month (X := (Lw, xs)) T
  obtain ⟨v, I2, L2, h1, h2, T2⟩ := sm
  refine ⟨I2, L2, R, w5, w6, w7, c + 0, k + 0, T2, by omega, by omega, fun r hr => ?_⟩
  refine e_tsI (j := 36) (off := 2369) 2409 dL_law_40 rfl (by rw [hx]; decide) (by decide) rfl rfl ?_
  refine f_aload_n (M := mL_law) 2410 dL_law_2409 rfl rfl ?_
  refine e_cV (M := mL_law) [_] (c + 0) (k + 0) dL_law_2410 pa_10285 pb_10285 cc_10285 rfl rfl rfl rfl rfl (show c + 0 ≤ 601024 by omega) (show k + 0 ≤ 7293034 by omega) rfl (h1) rfl ?_
  refine f_aload_n (M := mL_law) 2414 dL_law_2413 rfl rfl ?_
  refine e_cV (M := mL_law) [_, _] (c + 0) (k + 0) dL_law_2414 pa_10288 pb_10288 cc_10288 rfl rfl rfl rfl rfl (show c + 0 ≤ 601024 by omega) (show k + 0 ≤ 7293034 by omega) rfl (h2) rfl ?_
  refine e_icmp_eqT (M := mL_law) 2888 dL_law_2417 rfl rfl ?_
  refine f_iinc (M := mL_law) (ls' := [_, _, _, _, _, _, _, _]) 2891 dL_law_2888 ki_7 rfl rfl rfl rfl ?_
  refine f_goto (M := mL_law) 23 dL_law_2891 rfl ?_
  rw [show Int32.ofNat (7 * N) + 7 = Int32.ofNat (7 * (N + 1)) from ix_add rfl kn_7]; exact hr
theorem lk_37 (hlen : 7 * N + 7 ≤ Lw) (hLw : Lw ≤ 3584) (T : y_T N I L R) (hN : N < 512) (hc : c ≤ 233 + 4 * N) (hk : k ≤ 14655 + 24 * N) (hx : xs (7 * N) &&& 63 = Int32.ofNat 37) : y_Nx Lw xs N I L R c k w5 w6 w7 := by
  have sm : y_OL N (Lw, xs) mL_endMonth [.ref 0, .ref 232] mX9_endMonth [.ref 225] I L R := sim_endMonth (X := (Lw, xs)) T
  obtain ⟨k0, I1, L1, R1, v, I2, L2, h1, h2, ht, hv, T2⟩ := sm
  by_cases z : k0 = 0
  · refine ⟨I2, L2, R1, some (.int k0), some (.long v), none, c + 1, k + 6, T2, by omega, by omega, fun r hr => ?_⟩
    refine e_tsI (j := 37) (off := 2382) 2422 dL_law_40 rfl (by rw [hx]; decide) (by decide) rfl rfl ?_
    refine f_aload_n (M := mL_law) 2423 dL_law_2422 rfl rfl ?_
    refine f_aload_n (M := mL_law) 2424 dL_law_2423 rfl rfl ?_
    refine e_cS (M := mL_law) [_] (c + 1) (k + 6) dL_law_2424 pa_10289 cc_10289 rfl rfl rfl rfl rfl (show c + 1 ≤ 601024 by omega) (show k + 6 ≤ 7293034 by omega) rfl (h1) rfl ?_
    refine f_istore (M := mL_law) (ls' := [_, _, _, _, _, _, _, _]) 2429 dL_law_2427 rfl rfl rfl ?_
    refine f_aload_n (M := mL_law) 2430 dL_law_2429 rfl rfl ?_
    refine e_cV (M := mL_law) [_] (c + 1) (k + 6) dL_law_2430 pa_10291 pb_10291 cc_10291 rfl rfl rfl rfl rfl (show c + 1 ≤ 601024 by omega) (show k + 6 ≤ 7293034 by omega) rfl (h2) rfl ?_
    refine f_lstore (M := mL_law) (ls' := [_, _, _, _, _, _, _, _]) 2435 dL_law_2433 rfl rfl rfl ?_
    refine f_aload_n (M := mL_law) 2436 dL_law_2435 rfl rfl ?_
    refine e_cV (M := mL_law) [_] (c + 1) (k + 6) dL_law_2436 pa_10163 pb_10163 cc_10163 rfl rfl rfl rfl rfl (show c + 1 ≤ 601024 by omega) (show k + 6 ≤ 7293034 by omega) rfl (c_X9_thrown) rfl ?_
    refine f_iload (M := mL_law) 2441 dL_law_2439 rfl rfl ?_
    refine e_icmp_eqT (M := mL_law) 2446 dL_law_2441 rfl ht ?_
    refine f_iload (M := mL_law) 2448 dL_law_2446 rfl rfl ?_
    refine e_if_neF (M := mL_law) 2462 dL_law_2448 rfl (fun q => q z) ?_
    refine f_aload_n (M := mL_law) 2452 dL_law_2451 rfl rfl ?_
    refine f_iconst (M := mL_law) 2453 dL_law_2452 ki_0 rfl ?_
    refine e_lld (M := mL_law) (w := 1) (j := 0) dL_law_2453 (x_kk rfl) rfl kn_0 (by omega) (by omega) ?_
    refine f_lload (M := mL_law) 2456 dL_law_2454 rfl rfl ?_
    refine f_lcmp (M := mL_law) 2457 dL_law_2456 rfl ?_
    refine e_if_eqT (M := mL_law) 2462 dL_law_2457 rfl (lc_eq.mpr (hv z)) ?_
    refine f_goto (M := mL_law) 2888 dL_law_2462 rfl ?_
    refine f_iinc (M := mL_law) (ls' := [_, _, _, _, _, _, _, _]) 2891 dL_law_2888 ki_7 rfl rfl rfl rfl ?_
    refine f_goto (M := mL_law) 23 dL_law_2891 rfl ?_
    rw [show Int32.ofNat (7 * N) + 7 = Int32.ofNat (7 * (N + 1)) from ix_add rfl kn_7]; exact hr
  · refine ⟨I2, L2, R1, some (.int k0), some (.long v), none, c + 1, k + 6, T2, by omega, by omega, fun r hr => ?_⟩
    refine e_tsI (j := 37) (off := 2382) 2422 dL_law_40 rfl (by rw [hx]; decide) (by decide) rfl rfl ?_
    refine f_aload_n (M := mL_law) 2423 dL_law_2422 rfl rfl ?_
    refine f_aload_n (M := mL_law) 2424 dL_law_2423 rfl rfl ?_
    refine e_cS (M := mL_law) [_] (c + 1) (k + 6) dL_law_2424 pa_10289 cc_10289 rfl rfl rfl rfl rfl (show c + 1 ≤ 601024 by omega) (show k + 6 ≤ 7293034 by omega) rfl (h1) rfl ?_
    refine f_istore (M := mL_law) (ls' := [_, _, _, _, _, _, _, _]) 2429 dL_law_2427 rfl rfl rfl ?_
    refine f_aload_n (M := mL_law) 2430 dL_law_2429 rfl rfl ?_
    refine e_cV (M := mL_law) [_] (c + 1) (k + 6) dL_law_2430 pa_10291 pb_10291 cc_10291 rfl rfl rfl rfl rfl (show c + 1 ≤ 601024 by omega) (show k + 6 ≤ 7293034 by omega) rfl (h2) rfl ?_
    refine f_lstore (M := mL_law) (ls' := [_, _, _, _, _, _, _, _]) 2435 dL_law_2433 rfl rfl rfl ?_
    refine f_aload_n (M := mL_law) 2436 dL_law_2435 rfl rfl ?_
    refine e_cV (M := mL_law) [_] (c + 1) (k + 6) dL_law_2436 pa_10163 pb_10163 cc_10163 rfl rfl rfl rfl rfl (show c + 1 ≤ 601024 by omega) (show k + 6 ≤ 7293034 by omega) rfl (c_X9_thrown) rfl ?_
    refine f_iload (M := mL_law) 2441 dL_law_2439 rfl rfl ?_
    refine e_icmp_eqT (M := mL_law) 2446 dL_law_2441 rfl ht ?_
    refine f_iload (M := mL_law) 2448 dL_law_2446 rfl rfl ?_
    refine e_if_neT (M := mL_law) 2462 dL_law_2448 rfl z ?_
    refine f_goto (M := mL_law) 2888 dL_law_2462 rfl ?_
    refine f_iinc (M := mL_law) (ls' := [_, _, _, _, _, _, _, _]) 2891 dL_law_2888 ki_7 rfl rfl rfl rfl ?_
    refine f_goto (M := mL_law) 23 dL_law_2891 rfl ?_
    rw [show Int32.ofNat (7 * N) + 7 = Int32.ofNat (7 * (N + 1)) from ix_add rfl kn_7]; exact hr
theorem lk_38 (hlen : 7 * N + 7 ≤ Lw) (hLw : Lw ≤ 3584) (T : y_T N I L R) (hN : N < 512) (hc : c ≤ 233 + 4 * N) (hk : k ≤ 14655 + 24 * N) (hx : xs (7 * N) &&& 63 = Int32.ofNat 38) : y_Nx Lw xs N I L R c k w5 w6 w7 := by
  have sm : y_OL N (Lw, xs) mL_charge [.ref 0, .int (xs (7 * N + 1)), .ref 232] mX9_charge [.ref 225, .int (xs (7 * N + 1))] I L R := sim_charge (X := (Lw, xs)) T
  obtain ⟨k0, I1, L1, R1, v, I2, L2, h1, h2, ht, hv, T2⟩ := sm
  by_cases z : k0 = 0
  · refine ⟨I2, L2, R1, some (.int k0), some (.long v), none, c + 2, k + 12, T2, by omega, by omega, fun r hr => ?_⟩
    refine e_tsI (j := 38) (off := 2425) 2465 dL_law_40 rfl (by rw [hx]; decide) (by decide) rfl rfl ?_
    refine f_aload_n (M := mL_law) 2466 dL_law_2465 rfl rfl ?_
    refine f_aload_n (M := mL_law) 2467 dL_law_2466 rfl rfl ?_
    refine f_iload (M := mL_law) 2469 dL_law_2467 rfl rfl ?_
    refine f_iconst (M := mL_law) 2470 dL_law_2469 ki_1 rfl ?_
    refine f_iadd (M := mL_law) 2471 dL_law_2470 rfl ?_
    refine e_iaf (M := mL_law) (w := Lw) (f := xs) (j := (7 * N) + (1)) dL_law_2471 (x_kk rfl) rfl (ix_add rfl kn_1) (by omega) (by omega) ?_
    refine f_aload_n (M := mL_law) 2473 dL_law_2472 rfl rfl ?_
    refine e_cS (M := mL_law) [_] (c + 2) (k + 12) dL_law_2473 pa_10292 cc_10292 rfl rfl rfl rfl rfl (show c + 2 ≤ 601024 by omega) (show k + 12 ≤ 7293034 by omega) rfl (h1) rfl ?_
    refine f_istore (M := mL_law) (ls' := [_, _, _, _, _, _, _, _]) 2478 dL_law_2476 rfl rfl rfl ?_
    refine f_aload_n (M := mL_law) 2479 dL_law_2478 rfl rfl ?_
    refine f_aload_n (M := mL_law) 2480 dL_law_2479 rfl rfl ?_
    refine f_iload (M := mL_law) 2482 dL_law_2480 rfl rfl ?_
    refine f_iconst (M := mL_law) 2483 dL_law_2482 ki_1 rfl ?_
    refine f_iadd (M := mL_law) 2484 dL_law_2483 rfl ?_
    refine e_iaf (M := mL_law) (w := Lw) (f := xs) (j := (7 * N) + (1)) dL_law_2484 (x_kk rfl) rfl (ix_add rfl kn_1) (by omega) (by omega) ?_
    refine e_cV (M := mL_law) [_] (c + 2) (k + 12) dL_law_2485 pa_10294 pb_10294 cc_10294 rfl rfl rfl rfl rfl (show c + 2 ≤ 601024 by omega) (show k + 12 ≤ 7293034 by omega) rfl (h2) rfl ?_
    refine f_lstore (M := mL_law) (ls' := [_, _, _, _, _, _, _, _]) 2490 dL_law_2488 rfl rfl rfl ?_
    refine f_aload_n (M := mL_law) 2491 dL_law_2490 rfl rfl ?_
    refine e_cV (M := mL_law) [_] (c + 2) (k + 12) dL_law_2491 pa_10163 pb_10163 cc_10163 rfl rfl rfl rfl rfl (show c + 2 ≤ 601024 by omega) (show k + 12 ≤ 7293034 by omega) rfl (c_X9_thrown) rfl ?_
    refine f_iload (M := mL_law) 2496 dL_law_2494 rfl rfl ?_
    refine e_icmp_eqT (M := mL_law) 2501 dL_law_2496 rfl ht ?_
    refine f_iload (M := mL_law) 2503 dL_law_2501 rfl rfl ?_
    refine e_if_neF (M := mL_law) 2517 dL_law_2503 rfl (fun q => q z) ?_
    refine f_aload_n (M := mL_law) 2507 dL_law_2506 rfl rfl ?_
    refine f_iconst (M := mL_law) 2508 dL_law_2507 ki_0 rfl ?_
    refine e_lld (M := mL_law) (w := 1) (j := 0) dL_law_2508 (x_kk rfl) rfl kn_0 (by omega) (by omega) ?_
    refine f_lload (M := mL_law) 2511 dL_law_2509 rfl rfl ?_
    refine f_lcmp (M := mL_law) 2512 dL_law_2511 rfl ?_
    refine e_if_eqT (M := mL_law) 2517 dL_law_2512 rfl (lc_eq.mpr (hv z)) ?_
    refine f_goto (M := mL_law) 2888 dL_law_2517 rfl ?_
    refine f_iinc (M := mL_law) (ls' := [_, _, _, _, _, _, _, _]) 2891 dL_law_2888 ki_7 rfl rfl rfl rfl ?_
    refine f_goto (M := mL_law) 23 dL_law_2891 rfl ?_
    rw [show Int32.ofNat (7 * N) + 7 = Int32.ofNat (7 * (N + 1)) from ix_add rfl kn_7]; exact hr
  · refine ⟨I2, L2, R1, some (.int k0), some (.long v), none, c + 2, k + 12, T2, by omega, by omega, fun r hr => ?_⟩
    refine e_tsI (j := 38) (off := 2425) 2465 dL_law_40 rfl (by rw [hx]; decide) (by decide) rfl rfl ?_
    refine f_aload_n (M := mL_law) 2466 dL_law_2465 rfl rfl ?_
    refine f_aload_n (M := mL_law) 2467 dL_law_2466 rfl rfl ?_
    refine f_iload (M := mL_law) 2469 dL_law_2467 rfl rfl ?_
    refine f_iconst (M := mL_law) 2470 dL_law_2469 ki_1 rfl ?_
    refine f_iadd (M := mL_law) 2471 dL_law_2470 rfl ?_
    refine e_iaf (M := mL_law) (w := Lw) (f := xs) (j := (7 * N) + (1)) dL_law_2471 (x_kk rfl) rfl (ix_add rfl kn_1) (by omega) (by omega) ?_
    refine f_aload_n (M := mL_law) 2473 dL_law_2472 rfl rfl ?_
    refine e_cS (M := mL_law) [_] (c + 2) (k + 12) dL_law_2473 pa_10292 cc_10292 rfl rfl rfl rfl rfl (show c + 2 ≤ 601024 by omega) (show k + 12 ≤ 7293034 by omega) rfl (h1) rfl ?_
    refine f_istore (M := mL_law) (ls' := [_, _, _, _, _, _, _, _]) 2478 dL_law_2476 rfl rfl rfl ?_
    refine f_aload_n (M := mL_law) 2479 dL_law_2478 rfl rfl ?_
    refine f_aload_n (M := mL_law) 2480 dL_law_2479 rfl rfl ?_
    refine f_iload (M := mL_law) 2482 dL_law_2480 rfl rfl ?_
    refine f_iconst (M := mL_law) 2483 dL_law_2482 ki_1 rfl ?_
    refine f_iadd (M := mL_law) 2484 dL_law_2483 rfl ?_
    refine e_iaf (M := mL_law) (w := Lw) (f := xs) (j := (7 * N) + (1)) dL_law_2484 (x_kk rfl) rfl (ix_add rfl kn_1) (by omega) (by omega) ?_
    refine e_cV (M := mL_law) [_] (c + 2) (k + 12) dL_law_2485 pa_10294 pb_10294 cc_10294 rfl rfl rfl rfl rfl (show c + 2 ≤ 601024 by omega) (show k + 12 ≤ 7293034 by omega) rfl (h2) rfl ?_
    refine f_lstore (M := mL_law) (ls' := [_, _, _, _, _, _, _, _]) 2490 dL_law_2488 rfl rfl rfl ?_
    refine f_aload_n (M := mL_law) 2491 dL_law_2490 rfl rfl ?_
    refine e_cV (M := mL_law) [_] (c + 2) (k + 12) dL_law_2491 pa_10163 pb_10163 cc_10163 rfl rfl rfl rfl rfl (show c + 2 ≤ 601024 by omega) (show k + 12 ≤ 7293034 by omega) rfl (c_X9_thrown) rfl ?_
    refine f_iload (M := mL_law) 2496 dL_law_2494 rfl rfl ?_
    refine e_icmp_eqT (M := mL_law) 2501 dL_law_2496 rfl ht ?_
    refine f_iload (M := mL_law) 2503 dL_law_2501 rfl rfl ?_
    refine e_if_neT (M := mL_law) 2517 dL_law_2503 rfl z ?_
    refine f_goto (M := mL_law) 2888 dL_law_2517 rfl ?_
    refine f_iinc (M := mL_law) (ls' := [_, _, _, _, _, _, _, _]) 2891 dL_law_2888 ki_7 rfl rfl rfl rfl ?_
    refine f_goto (M := mL_law) 23 dL_law_2891 rfl ?_
    rw [show Int32.ofNat (7 * N) + 7 = Int32.ofNat (7 * (N + 1)) from ix_add rfl kn_7]; exact hr
theorem lk_39 (hlen : 7 * N + 7 ≤ Lw) (hLw : Lw ≤ 3584) (T : y_T N I L R) (hN : N < 512) (hc : c ≤ 233 + 4 * N) (hk : k ≤ 14655 + 24 * N) (hx : xs (7 * N) &&& 63 = Int32.ofNat 39) : y_Nx Lw xs N I L R c k w5 w6 w7 := by
  have sm : y_OL N (Lw, xs) mL_pay [.ref 0, .int (xs (7 * N + 1)), .ref 232] mX9_pay [.ref 225, .int (xs (7 * N + 1))] I L R := sim_pay (X := (Lw, xs)) T
  obtain ⟨k0, I1, L1, R1, v, I2, L2, h1, h2, ht, hv, T2⟩ := sm
  by_cases z : k0 = 0
  · refine ⟨I2, L2, R1, some (.int k0), some (.long v), none, c + 2, k + 12, T2, by omega, by omega, fun r hr => ?_⟩
    refine e_tsI (j := 39) (off := 2480) 2520 dL_law_40 rfl (by rw [hx]; decide) (by decide) rfl rfl ?_
    refine f_aload_n (M := mL_law) 2521 dL_law_2520 rfl rfl ?_
    refine f_aload_n (M := mL_law) 2522 dL_law_2521 rfl rfl ?_
    refine f_iload (M := mL_law) 2524 dL_law_2522 rfl rfl ?_
    refine f_iconst (M := mL_law) 2525 dL_law_2524 ki_1 rfl ?_
    refine f_iadd (M := mL_law) 2526 dL_law_2525 rfl ?_
    refine e_iaf (M := mL_law) (w := Lw) (f := xs) (j := (7 * N) + (1)) dL_law_2526 (x_kk rfl) rfl (ix_add rfl kn_1) (by omega) (by omega) ?_
    refine f_aload_n (M := mL_law) 2528 dL_law_2527 rfl rfl ?_
    refine e_cS (M := mL_law) [_] (c + 2) (k + 12) dL_law_2528 pa_10295 cc_10295 rfl rfl rfl rfl rfl (show c + 2 ≤ 601024 by omega) (show k + 12 ≤ 7293034 by omega) rfl (h1) rfl ?_
    refine f_istore (M := mL_law) (ls' := [_, _, _, _, _, _, _, _]) 2533 dL_law_2531 rfl rfl rfl ?_
    refine f_aload_n (M := mL_law) 2534 dL_law_2533 rfl rfl ?_
    refine f_aload_n (M := mL_law) 2535 dL_law_2534 rfl rfl ?_
    refine f_iload (M := mL_law) 2537 dL_law_2535 rfl rfl ?_
    refine f_iconst (M := mL_law) 2538 dL_law_2537 ki_1 rfl ?_
    refine f_iadd (M := mL_law) 2539 dL_law_2538 rfl ?_
    refine e_iaf (M := mL_law) (w := Lw) (f := xs) (j := (7 * N) + (1)) dL_law_2539 (x_kk rfl) rfl (ix_add rfl kn_1) (by omega) (by omega) ?_
    refine e_cV (M := mL_law) [_] (c + 2) (k + 12) dL_law_2540 pa_10297 pb_10297 cc_10297 rfl rfl rfl rfl rfl (show c + 2 ≤ 601024 by omega) (show k + 12 ≤ 7293034 by omega) rfl (h2) rfl ?_
    refine f_lstore (M := mL_law) (ls' := [_, _, _, _, _, _, _, _]) 2545 dL_law_2543 rfl rfl rfl ?_
    refine f_aload_n (M := mL_law) 2546 dL_law_2545 rfl rfl ?_
    refine e_cV (M := mL_law) [_] (c + 2) (k + 12) dL_law_2546 pa_10163 pb_10163 cc_10163 rfl rfl rfl rfl rfl (show c + 2 ≤ 601024 by omega) (show k + 12 ≤ 7293034 by omega) rfl (c_X9_thrown) rfl ?_
    refine f_iload (M := mL_law) 2551 dL_law_2549 rfl rfl ?_
    refine e_icmp_eqT (M := mL_law) 2556 dL_law_2551 rfl ht ?_
    refine f_iload (M := mL_law) 2558 dL_law_2556 rfl rfl ?_
    refine e_if_neF (M := mL_law) 2572 dL_law_2558 rfl (fun q => q z) ?_
    refine f_aload_n (M := mL_law) 2562 dL_law_2561 rfl rfl ?_
    refine f_iconst (M := mL_law) 2563 dL_law_2562 ki_0 rfl ?_
    refine e_lld (M := mL_law) (w := 1) (j := 0) dL_law_2563 (x_kk rfl) rfl kn_0 (by omega) (by omega) ?_
    refine f_lload (M := mL_law) 2566 dL_law_2564 rfl rfl ?_
    refine f_lcmp (M := mL_law) 2567 dL_law_2566 rfl ?_
    refine e_if_eqT (M := mL_law) 2572 dL_law_2567 rfl (lc_eq.mpr (hv z)) ?_
    refine f_goto (M := mL_law) 2888 dL_law_2572 rfl ?_
    refine f_iinc (M := mL_law) (ls' := [_, _, _, _, _, _, _, _]) 2891 dL_law_2888 ki_7 rfl rfl rfl rfl ?_
    refine f_goto (M := mL_law) 23 dL_law_2891 rfl ?_
    rw [show Int32.ofNat (7 * N) + 7 = Int32.ofNat (7 * (N + 1)) from ix_add rfl kn_7]; exact hr
  · refine ⟨I2, L2, R1, some (.int k0), some (.long v), none, c + 2, k + 12, T2, by omega, by omega, fun r hr => ?_⟩
    refine e_tsI (j := 39) (off := 2480) 2520 dL_law_40 rfl (by rw [hx]; decide) (by decide) rfl rfl ?_
    refine f_aload_n (M := mL_law) 2521 dL_law_2520 rfl rfl ?_
    refine f_aload_n (M := mL_law) 2522 dL_law_2521 rfl rfl ?_
    refine f_iload (M := mL_law) 2524 dL_law_2522 rfl rfl ?_
    refine f_iconst (M := mL_law) 2525 dL_law_2524 ki_1 rfl ?_
    refine f_iadd (M := mL_law) 2526 dL_law_2525 rfl ?_
    refine e_iaf (M := mL_law) (w := Lw) (f := xs) (j := (7 * N) + (1)) dL_law_2526 (x_kk rfl) rfl (ix_add rfl kn_1) (by omega) (by omega) ?_
    refine f_aload_n (M := mL_law) 2528 dL_law_2527 rfl rfl ?_
    refine e_cS (M := mL_law) [_] (c + 2) (k + 12) dL_law_2528 pa_10295 cc_10295 rfl rfl rfl rfl rfl (show c + 2 ≤ 601024 by omega) (show k + 12 ≤ 7293034 by omega) rfl (h1) rfl ?_
    refine f_istore (M := mL_law) (ls' := [_, _, _, _, _, _, _, _]) 2533 dL_law_2531 rfl rfl rfl ?_
    refine f_aload_n (M := mL_law) 2534 dL_law_2533 rfl rfl ?_
    refine f_aload_n (M := mL_law) 2535 dL_law_2534 rfl rfl ?_
    refine f_iload (M := mL_law) 2537 dL_law_2535 rfl rfl ?_
    refine f_iconst (M := mL_law) 2538 dL_law_2537 ki_1 rfl ?_
    refine f_iadd (M := mL_law) 2539 dL_law_2538 rfl ?_
    refine e_iaf (M := mL_law) (w := Lw) (f := xs) (j := (7 * N) + (1)) dL_law_2539 (x_kk rfl) rfl (ix_add rfl kn_1) (by omega) (by omega) ?_
    refine e_cV (M := mL_law) [_] (c + 2) (k + 12) dL_law_2540 pa_10297 pb_10297 cc_10297 rfl rfl rfl rfl rfl (show c + 2 ≤ 601024 by omega) (show k + 12 ≤ 7293034 by omega) rfl (h2) rfl ?_
    refine f_lstore (M := mL_law) (ls' := [_, _, _, _, _, _, _, _]) 2545 dL_law_2543 rfl rfl rfl ?_
    refine f_aload_n (M := mL_law) 2546 dL_law_2545 rfl rfl ?_
    refine e_cV (M := mL_law) [_] (c + 2) (k + 12) dL_law_2546 pa_10163 pb_10163 cc_10163 rfl rfl rfl rfl rfl (show c + 2 ≤ 601024 by omega) (show k + 12 ≤ 7293034 by omega) rfl (c_X9_thrown) rfl ?_
    refine f_iload (M := mL_law) 2551 dL_law_2549 rfl rfl ?_
    refine e_icmp_eqT (M := mL_law) 2556 dL_law_2551 rfl ht ?_
    refine f_iload (M := mL_law) 2558 dL_law_2556 rfl rfl ?_
    refine e_if_neT (M := mL_law) 2572 dL_law_2558 rfl z ?_
    refine f_goto (M := mL_law) 2888 dL_law_2572 rfl ?_
    refine f_iinc (M := mL_law) (ls' := [_, _, _, _, _, _, _, _]) 2891 dL_law_2888 ki_7 rfl rfl rfl rfl ?_
    refine f_goto (M := mL_law) 23 dL_law_2891 rfl ?_
    rw [show Int32.ofNat (7 * N) + 7 = Int32.ofNat (7 * (N + 1)) from ix_add rfl kn_7]; exact hr
theorem lk_40 (hlen : 7 * N + 7 ≤ Lw) (hLw : Lw ≤ 3584) (T : y_T N I L R) (hN : N < 512) (hc : c ≤ 233 + 4 * N) (hk : k ≤ 14655 + 24 * N) (hx : xs (7 * N) &&& 63 = Int32.ofNat 40) : y_Nx Lw xs N I L R c k w5 w6 w7 := by
  have sm : y_DL N (Lw, xs) mX8_debt [.ref 0] mX9_debt [.ref 225] I L R := sim_debt (X := (Lw, xs)) T
  obtain ⟨v, I2, L2, h1, h2, T2⟩ := sm
  refine ⟨I2, L2, R, w5, w6, w7, c + 0, k + 0, T2, by omega, by omega, fun r hr => ?_⟩
  refine e_tsI (j := 40) (off := 2535) 2575 dL_law_40 rfl (by rw [hx]; decide) (by decide) rfl rfl ?_
  refine f_aload_n (M := mL_law) 2576 dL_law_2575 rfl rfl ?_
  refine e_cV (M := mL_law) [_] (c + 0) (k + 0) dL_law_2576 pa_10298 pb_10298 cc_10298 rfl rfl rfl rfl rfl (show c + 0 ≤ 601024 by omega) (show k + 0 ≤ 7293034 by omega) rfl (h1) rfl ?_
  refine f_aload_n (M := mL_law) 2580 dL_law_2579 rfl rfl ?_
  refine e_cV (M := mL_law) [_, _] (c + 0) (k + 0) dL_law_2580 pa_10301 pb_10301 cc_10301 rfl rfl rfl rfl rfl (show c + 0 ≤ 601024 by omega) (show k + 0 ≤ 7293034 by omega) rfl (h2) rfl ?_
  refine f_lcmp (M := mL_law) 2584 dL_law_2583 rfl ?_
  refine e_if_eqT (M := mL_law) 2888 dL_law_2584 rfl (lc_eq.mpr rfl) ?_
  refine f_iinc (M := mL_law) (ls' := [_, _, _, _, _, _, _, _]) 2891 dL_law_2888 ki_7 rfl rfl rfl rfl ?_
  refine f_goto (M := mL_law) 23 dL_law_2891 rfl ?_
  rw [show Int32.ofNat (7 * N) + 7 = Int32.ofNat (7 * (N + 1)) from ix_add rfl kn_7]; exact hr
theorem lk_41 (hlen : 7 * N + 7 ≤ Lw) (hLw : Lw ≤ 3584) (T : y_T N I L R) (hN : N < 512) (hc : c ≤ 233 + 4 * N) (hk : k ≤ 14655 + 24 * N) (hx : xs (7 * N) &&& 63 = Int32.ofNat 41) : y_Nx Lw xs N I L R c k w5 w6 w7 := by
  have sm : y_OL N (Lw, xs) mL_projectedDebt [.ref 0, .int (xs (7 * N + 1)), .ref 232] mX9_projectedDebt [.ref 225, .int (xs (7 * N + 1))] I L R := sim_projectedDebt (X := (Lw, xs)) T
  obtain ⟨k0, I1, L1, R1, v, I2, L2, h1, h2, ht, hv, T2⟩ := sm
  by_cases z : k0 = 0
  · refine ⟨I2, L2, R1, some (.int k0), some (.long v), none, c + 2, k + 12, T2, by omega, by omega, fun r hr => ?_⟩
    refine e_tsI (j := 41) (off := 2549) 2589 dL_law_40 rfl (by rw [hx]; decide) (by decide) rfl rfl ?_
    refine f_aload_n (M := mL_law) 2590 dL_law_2589 rfl rfl ?_
    refine f_aload_n (M := mL_law) 2591 dL_law_2590 rfl rfl ?_
    refine f_iload (M := mL_law) 2593 dL_law_2591 rfl rfl ?_
    refine f_iconst (M := mL_law) 2594 dL_law_2593 ki_1 rfl ?_
    refine f_iadd (M := mL_law) 2595 dL_law_2594 rfl ?_
    refine e_iaf (M := mL_law) (w := Lw) (f := xs) (j := (7 * N) + (1)) dL_law_2595 (x_kk rfl) rfl (ix_add rfl kn_1) (by omega) (by omega) ?_
    refine f_aload_n (M := mL_law) 2597 dL_law_2596 rfl rfl ?_
    refine e_cS (M := mL_law) [_] (c + 2) (k + 12) dL_law_2597 pa_10302 cc_10302 rfl rfl rfl rfl rfl (show c + 2 ≤ 601024 by omega) (show k + 12 ≤ 7293034 by omega) rfl (h1) rfl ?_
    refine f_istore (M := mL_law) (ls' := [_, _, _, _, _, _, _, _]) 2602 dL_law_2600 rfl rfl rfl ?_
    refine f_aload_n (M := mL_law) 2603 dL_law_2602 rfl rfl ?_
    refine f_aload_n (M := mL_law) 2604 dL_law_2603 rfl rfl ?_
    refine f_iload (M := mL_law) 2606 dL_law_2604 rfl rfl ?_
    refine f_iconst (M := mL_law) 2607 dL_law_2606 ki_1 rfl ?_
    refine f_iadd (M := mL_law) 2608 dL_law_2607 rfl ?_
    refine e_iaf (M := mL_law) (w := Lw) (f := xs) (j := (7 * N) + (1)) dL_law_2608 (x_kk rfl) rfl (ix_add rfl kn_1) (by omega) (by omega) ?_
    refine e_cV (M := mL_law) [_] (c + 2) (k + 12) dL_law_2609 pa_10304 pb_10304 cc_10304 rfl rfl rfl rfl rfl (show c + 2 ≤ 601024 by omega) (show k + 12 ≤ 7293034 by omega) rfl (h2) rfl ?_
    refine f_lstore (M := mL_law) (ls' := [_, _, _, _, _, _, _, _]) 2614 dL_law_2612 rfl rfl rfl ?_
    refine f_aload_n (M := mL_law) 2615 dL_law_2614 rfl rfl ?_
    refine e_cV (M := mL_law) [_] (c + 2) (k + 12) dL_law_2615 pa_10163 pb_10163 cc_10163 rfl rfl rfl rfl rfl (show c + 2 ≤ 601024 by omega) (show k + 12 ≤ 7293034 by omega) rfl (c_X9_thrown) rfl ?_
    refine f_iload (M := mL_law) 2620 dL_law_2618 rfl rfl ?_
    refine e_icmp_eqT (M := mL_law) 2625 dL_law_2620 rfl ht ?_
    refine f_iload (M := mL_law) 2627 dL_law_2625 rfl rfl ?_
    refine e_if_neF (M := mL_law) 2641 dL_law_2627 rfl (fun q => q z) ?_
    refine f_aload_n (M := mL_law) 2631 dL_law_2630 rfl rfl ?_
    refine f_iconst (M := mL_law) 2632 dL_law_2631 ki_0 rfl ?_
    refine e_lld (M := mL_law) (w := 1) (j := 0) dL_law_2632 (x_kk rfl) rfl kn_0 (by omega) (by omega) ?_
    refine f_lload (M := mL_law) 2635 dL_law_2633 rfl rfl ?_
    refine f_lcmp (M := mL_law) 2636 dL_law_2635 rfl ?_
    refine e_if_eqT (M := mL_law) 2641 dL_law_2636 rfl (lc_eq.mpr (hv z)) ?_
    refine f_goto (M := mL_law) 2888 dL_law_2641 rfl ?_
    refine f_iinc (M := mL_law) (ls' := [_, _, _, _, _, _, _, _]) 2891 dL_law_2888 ki_7 rfl rfl rfl rfl ?_
    refine f_goto (M := mL_law) 23 dL_law_2891 rfl ?_
    rw [show Int32.ofNat (7 * N) + 7 = Int32.ofNat (7 * (N + 1)) from ix_add rfl kn_7]; exact hr
  · refine ⟨I2, L2, R1, some (.int k0), some (.long v), none, c + 2, k + 12, T2, by omega, by omega, fun r hr => ?_⟩
    refine e_tsI (j := 41) (off := 2549) 2589 dL_law_40 rfl (by rw [hx]; decide) (by decide) rfl rfl ?_
    refine f_aload_n (M := mL_law) 2590 dL_law_2589 rfl rfl ?_
    refine f_aload_n (M := mL_law) 2591 dL_law_2590 rfl rfl ?_
    refine f_iload (M := mL_law) 2593 dL_law_2591 rfl rfl ?_
    refine f_iconst (M := mL_law) 2594 dL_law_2593 ki_1 rfl ?_
    refine f_iadd (M := mL_law) 2595 dL_law_2594 rfl ?_
    refine e_iaf (M := mL_law) (w := Lw) (f := xs) (j := (7 * N) + (1)) dL_law_2595 (x_kk rfl) rfl (ix_add rfl kn_1) (by omega) (by omega) ?_
    refine f_aload_n (M := mL_law) 2597 dL_law_2596 rfl rfl ?_
    refine e_cS (M := mL_law) [_] (c + 2) (k + 12) dL_law_2597 pa_10302 cc_10302 rfl rfl rfl rfl rfl (show c + 2 ≤ 601024 by omega) (show k + 12 ≤ 7293034 by omega) rfl (h1) rfl ?_
    refine f_istore (M := mL_law) (ls' := [_, _, _, _, _, _, _, _]) 2602 dL_law_2600 rfl rfl rfl ?_
    refine f_aload_n (M := mL_law) 2603 dL_law_2602 rfl rfl ?_
    refine f_aload_n (M := mL_law) 2604 dL_law_2603 rfl rfl ?_
    refine f_iload (M := mL_law) 2606 dL_law_2604 rfl rfl ?_
    refine f_iconst (M := mL_law) 2607 dL_law_2606 ki_1 rfl ?_
    refine f_iadd (M := mL_law) 2608 dL_law_2607 rfl ?_
    refine e_iaf (M := mL_law) (w := Lw) (f := xs) (j := (7 * N) + (1)) dL_law_2608 (x_kk rfl) rfl (ix_add rfl kn_1) (by omega) (by omega) ?_
    refine e_cV (M := mL_law) [_] (c + 2) (k + 12) dL_law_2609 pa_10304 pb_10304 cc_10304 rfl rfl rfl rfl rfl (show c + 2 ≤ 601024 by omega) (show k + 12 ≤ 7293034 by omega) rfl (h2) rfl ?_
    refine f_lstore (M := mL_law) (ls' := [_, _, _, _, _, _, _, _]) 2614 dL_law_2612 rfl rfl rfl ?_
    refine f_aload_n (M := mL_law) 2615 dL_law_2614 rfl rfl ?_
    refine e_cV (M := mL_law) [_] (c + 2) (k + 12) dL_law_2615 pa_10163 pb_10163 cc_10163 rfl rfl rfl rfl rfl (show c + 2 ≤ 601024 by omega) (show k + 12 ≤ 7293034 by omega) rfl (c_X9_thrown) rfl ?_
    refine f_iload (M := mL_law) 2620 dL_law_2618 rfl rfl ?_
    refine e_icmp_eqT (M := mL_law) 2625 dL_law_2620 rfl ht ?_
    refine f_iload (M := mL_law) 2627 dL_law_2625 rfl rfl ?_
    refine e_if_neT (M := mL_law) 2641 dL_law_2627 rfl z ?_
    refine f_goto (M := mL_law) 2888 dL_law_2641 rfl ?_
    refine f_iinc (M := mL_law) (ls' := [_, _, _, _, _, _, _, _]) 2891 dL_law_2888 ki_7 rfl rfl rfl rfl ?_
    refine f_goto (M := mL_law) 23 dL_law_2891 rfl ?_
    rw [show Int32.ofNat (7 * N) + 7 = Int32.ofNat (7 * (N + 1)) from ix_add rfl kn_7]; exact hr
theorem lk_42 (hlen : 7 * N + 7 ≤ Lw) (hLw : Lw ≤ 3584) (T : y_T N I L R) (hN : N < 512) (hc : c ≤ 233 + 4 * N) (hk : k ≤ 14655 + 24 * N) (hx : xs (7 * N) &&& 63 = Int32.ofNat 42) : y_Nx Lw xs N I L R c k w5 w6 w7 := by
  have sm : y_DL N (Lw, xs) mX8_adjustment [.ref 0] mX9_adjustment [.ref 225] I L R := sim_adjustment (X := (Lw, xs)) T
  obtain ⟨v, I2, L2, h1, h2, T2⟩ := sm
  refine ⟨I2, L2, R, w5, w6, w7, c + 0, k + 0, T2, by omega, by omega, fun r hr => ?_⟩
  refine e_tsI (j := 42) (off := 2604) 2644 dL_law_40 rfl (by rw [hx]; decide) (by decide) rfl rfl ?_
  refine f_aload_n (M := mL_law) 2645 dL_law_2644 rfl rfl ?_
  refine e_cV (M := mL_law) [_] (c + 0) (k + 0) dL_law_2645 pa_10305 pb_10305 cc_10305 rfl rfl rfl rfl rfl (show c + 0 ≤ 601024 by omega) (show k + 0 ≤ 7293034 by omega) rfl (h1) rfl ?_
  refine f_aload_n (M := mL_law) 2649 dL_law_2648 rfl rfl ?_
  refine e_cV (M := mL_law) [_, _] (c + 0) (k + 0) dL_law_2649 pa_10308 pb_10308 cc_10308 rfl rfl rfl rfl rfl (show c + 0 ≤ 601024 by omega) (show k + 0 ≤ 7293034 by omega) rfl (h2) rfl ?_
  refine f_lcmp (M := mL_law) 2653 dL_law_2652 rfl ?_
  refine e_if_eqT (M := mL_law) 2888 dL_law_2653 rfl (lc_eq.mpr rfl) ?_
  refine f_iinc (M := mL_law) (ls' := [_, _, _, _, _, _, _, _]) 2891 dL_law_2888 ki_7 rfl rfl rfl rfl ?_
  refine f_goto (M := mL_law) 23 dL_law_2891 rfl ?_
  rw [show Int32.ofNat (7 * N) + 7 = Int32.ofNat (7 * (N + 1)) from ix_add rfl kn_7]; exact hr
theorem lk_43 (hlen : 7 * N + 7 ≤ Lw) (hLw : Lw ≤ 3584) (T : y_T N I L R) (hN : N < 512) (hc : c ≤ 233 + 4 * N) (hk : k ≤ 14655 + 24 * N) (hx : xs (7 * N) &&& 63 = Int32.ofNat 43) : y_Nx Lw xs N I L R c k w5 w6 w7 := by
  have sm : y_OL N (Lw, xs) mL_close [.ref 0, .ref 232] mX9_close [.ref 225] I L R := sim_close (X := (Lw, xs)) T
  obtain ⟨k0, I1, L1, R1, v, I2, L2, h1, h2, ht, hv, T2⟩ := sm
  by_cases z : k0 = 0
  · refine ⟨I2, L2, R1, some (.int k0), some (.long v), none, c + 1, k + 6, T2, by omega, by omega, fun r hr => ?_⟩
    refine e_tsI (j := 43) (off := 2618) 2658 dL_law_40 rfl (by rw [hx]; decide) (by decide) rfl rfl ?_
    refine f_aload_n (M := mL_law) 2659 dL_law_2658 rfl rfl ?_
    refine f_aload_n (M := mL_law) 2660 dL_law_2659 rfl rfl ?_
    refine e_cS (M := mL_law) [_] (c + 1) (k + 6) dL_law_2660 pa_10309 cc_10309 rfl rfl rfl rfl rfl (show c + 1 ≤ 601024 by omega) (show k + 6 ≤ 7293034 by omega) rfl (h1) rfl ?_
    refine f_istore (M := mL_law) (ls' := [_, _, _, _, _, _, _, _]) 2665 dL_law_2663 rfl rfl rfl ?_
    refine f_aload_n (M := mL_law) 2666 dL_law_2665 rfl rfl ?_
    refine e_cV (M := mL_law) [_] (c + 1) (k + 6) dL_law_2666 pa_10311 pb_10311 cc_10311 rfl rfl rfl rfl rfl (show c + 1 ≤ 601024 by omega) (show k + 6 ≤ 7293034 by omega) rfl (h2) rfl ?_
    refine f_lstore (M := mL_law) (ls' := [_, _, _, _, _, _, _, _]) 2671 dL_law_2669 rfl rfl rfl ?_
    refine f_aload_n (M := mL_law) 2672 dL_law_2671 rfl rfl ?_
    refine e_cV (M := mL_law) [_] (c + 1) (k + 6) dL_law_2672 pa_10163 pb_10163 cc_10163 rfl rfl rfl rfl rfl (show c + 1 ≤ 601024 by omega) (show k + 6 ≤ 7293034 by omega) rfl (c_X9_thrown) rfl ?_
    refine f_iload (M := mL_law) 2677 dL_law_2675 rfl rfl ?_
    refine e_icmp_eqT (M := mL_law) 2682 dL_law_2677 rfl ht ?_
    refine f_iload (M := mL_law) 2684 dL_law_2682 rfl rfl ?_
    refine e_if_neF (M := mL_law) 2698 dL_law_2684 rfl (fun q => q z) ?_
    refine f_aload_n (M := mL_law) 2688 dL_law_2687 rfl rfl ?_
    refine f_iconst (M := mL_law) 2689 dL_law_2688 ki_0 rfl ?_
    refine e_lld (M := mL_law) (w := 1) (j := 0) dL_law_2689 (x_kk rfl) rfl kn_0 (by omega) (by omega) ?_
    refine f_lload (M := mL_law) 2692 dL_law_2690 rfl rfl ?_
    refine f_lcmp (M := mL_law) 2693 dL_law_2692 rfl ?_
    refine e_if_eqT (M := mL_law) 2698 dL_law_2693 rfl (lc_eq.mpr (hv z)) ?_
    refine f_goto (M := mL_law) 2888 dL_law_2698 rfl ?_
    refine f_iinc (M := mL_law) (ls' := [_, _, _, _, _, _, _, _]) 2891 dL_law_2888 ki_7 rfl rfl rfl rfl ?_
    refine f_goto (M := mL_law) 23 dL_law_2891 rfl ?_
    rw [show Int32.ofNat (7 * N) + 7 = Int32.ofNat (7 * (N + 1)) from ix_add rfl kn_7]; exact hr
  · refine ⟨I2, L2, R1, some (.int k0), some (.long v), none, c + 1, k + 6, T2, by omega, by omega, fun r hr => ?_⟩
    refine e_tsI (j := 43) (off := 2618) 2658 dL_law_40 rfl (by rw [hx]; decide) (by decide) rfl rfl ?_
    refine f_aload_n (M := mL_law) 2659 dL_law_2658 rfl rfl ?_
    refine f_aload_n (M := mL_law) 2660 dL_law_2659 rfl rfl ?_
    refine e_cS (M := mL_law) [_] (c + 1) (k + 6) dL_law_2660 pa_10309 cc_10309 rfl rfl rfl rfl rfl (show c + 1 ≤ 601024 by omega) (show k + 6 ≤ 7293034 by omega) rfl (h1) rfl ?_
    refine f_istore (M := mL_law) (ls' := [_, _, _, _, _, _, _, _]) 2665 dL_law_2663 rfl rfl rfl ?_
    refine f_aload_n (M := mL_law) 2666 dL_law_2665 rfl rfl ?_
    refine e_cV (M := mL_law) [_] (c + 1) (k + 6) dL_law_2666 pa_10311 pb_10311 cc_10311 rfl rfl rfl rfl rfl (show c + 1 ≤ 601024 by omega) (show k + 6 ≤ 7293034 by omega) rfl (h2) rfl ?_
    refine f_lstore (M := mL_law) (ls' := [_, _, _, _, _, _, _, _]) 2671 dL_law_2669 rfl rfl rfl ?_
    refine f_aload_n (M := mL_law) 2672 dL_law_2671 rfl rfl ?_
    refine e_cV (M := mL_law) [_] (c + 1) (k + 6) dL_law_2672 pa_10163 pb_10163 cc_10163 rfl rfl rfl rfl rfl (show c + 1 ≤ 601024 by omega) (show k + 6 ≤ 7293034 by omega) rfl (c_X9_thrown) rfl ?_
    refine f_iload (M := mL_law) 2677 dL_law_2675 rfl rfl ?_
    refine e_icmp_eqT (M := mL_law) 2682 dL_law_2677 rfl ht ?_
    refine f_iload (M := mL_law) 2684 dL_law_2682 rfl rfl ?_
    refine e_if_neT (M := mL_law) 2698 dL_law_2684 rfl z ?_
    refine f_goto (M := mL_law) 2888 dL_law_2698 rfl ?_
    refine f_iinc (M := mL_law) (ls' := [_, _, _, _, _, _, _, _]) 2891 dL_law_2888 ki_7 rfl rfl rfl rfl ?_
    refine f_goto (M := mL_law) 23 dL_law_2891 rfl ?_
    rw [show Int32.ofNat (7 * N) + 7 = Int32.ofNat (7 * (N + 1)) from ix_add rfl kn_7]; exact hr
theorem lk_44 (hlen : 7 * N + 7 ≤ Lw) (hLw : Lw ≤ 3584) (T : y_T N I L R) (hN : N < 512) (hc : c ≤ 233 + 4 * N) (hk : k ≤ 14655 + 24 * N) (hx : xs (7 * N) &&& 63 = Int32.ofNat 44) : y_Nx Lw xs N I L R c k w5 w6 w7 := by
  have sm : y_OI N (Lw, xs) mL_remaining [.ref 0, .int (xs (7 * N + 1)), .ref 232] mX9_remaining [.ref 225, .int (xs (7 * N + 1))] I L R := sim_remaining (X := (Lw, xs)) T
  obtain ⟨k0, I1, L1, R1, v, I2, L2, h1, h2, ht, hv, T2⟩ := sm
  by_cases z : k0 = 0
  · refine ⟨I2, L2, R1, some (.int k0), some (.int v), w7, c + 2, k + 12, T2, by omega, by omega, fun r hr => ?_⟩
    refine e_tsI (j := 44) (off := 2661) 2701 dL_law_40 rfl (by rw [hx]; decide) (by decide) rfl rfl ?_
    refine f_aload_n (M := mL_law) 2702 dL_law_2701 rfl rfl ?_
    refine f_aload_n (M := mL_law) 2703 dL_law_2702 rfl rfl ?_
    refine f_iload (M := mL_law) 2705 dL_law_2703 rfl rfl ?_
    refine f_iconst (M := mL_law) 2706 dL_law_2705 ki_1 rfl ?_
    refine f_iadd (M := mL_law) 2707 dL_law_2706 rfl ?_
    refine e_iaf (M := mL_law) (w := Lw) (f := xs) (j := (7 * N) + (1)) dL_law_2707 (x_kk rfl) rfl (ix_add rfl kn_1) (by omega) (by omega) ?_
    refine f_aload_n (M := mL_law) 2709 dL_law_2708 rfl rfl ?_
    refine e_cS (M := mL_law) [_] (c + 2) (k + 12) dL_law_2709 pa_10312 cc_10312 rfl rfl rfl rfl rfl (show c + 2 ≤ 601024 by omega) (show k + 12 ≤ 7293034 by omega) rfl (h1) rfl ?_
    refine f_istore (M := mL_law) (ls' := [_, _, _, _, _, _, _, _]) 2714 dL_law_2712 rfl rfl rfl ?_
    refine f_aload_n (M := mL_law) 2715 dL_law_2714 rfl rfl ?_
    refine f_aload_n (M := mL_law) 2716 dL_law_2715 rfl rfl ?_
    refine f_iload (M := mL_law) 2718 dL_law_2716 rfl rfl ?_
    refine f_iconst (M := mL_law) 2719 dL_law_2718 ki_1 rfl ?_
    refine f_iadd (M := mL_law) 2720 dL_law_2719 rfl ?_
    refine e_iaf (M := mL_law) (w := Lw) (f := xs) (j := (7 * N) + (1)) dL_law_2720 (x_kk rfl) rfl (ix_add rfl kn_1) (by omega) (by omega) ?_
    refine e_cV (M := mL_law) [_] (c + 2) (k + 12) dL_law_2721 pa_10314 pb_10314 cc_10314 rfl rfl rfl rfl rfl (show c + 2 ≤ 601024 by omega) (show k + 12 ≤ 7293034 by omega) rfl (h2) rfl ?_
    refine f_istore (M := mL_law) (ls' := [_, _, _, _, _, _, _, _]) 2726 dL_law_2724 rfl rfl rfl ?_
    refine f_aload_n (M := mL_law) 2727 dL_law_2726 rfl rfl ?_
    refine e_cV (M := mL_law) [_] (c + 2) (k + 12) dL_law_2727 pa_10163 pb_10163 cc_10163 rfl rfl rfl rfl rfl (show c + 2 ≤ 601024 by omega) (show k + 12 ≤ 7293034 by omega) rfl (c_X9_thrown) rfl ?_
    refine f_iload (M := mL_law) 2732 dL_law_2730 rfl rfl ?_
    refine e_icmp_eqT (M := mL_law) 2737 dL_law_2732 rfl ht ?_
    refine f_iload (M := mL_law) 2739 dL_law_2737 rfl rfl ?_
    refine e_if_neF (M := mL_law) 2754 dL_law_2739 rfl (fun q => q z) ?_
    refine f_aload_n (M := mL_law) 2743 dL_law_2742 rfl rfl ?_
    refine f_iconst (M := mL_law) 2744 dL_law_2743 ki_0 rfl ?_
    refine e_lld (M := mL_law) (w := 1) (j := 0) dL_law_2744 (x_kk rfl) rfl kn_0 (by omega) (by omega) ?_
    refine f_iload (M := mL_law) 2747 dL_law_2745 rfl rfl ?_
    refine f_i2l (M := mL_law) 2748 dL_law_2747 rfl ?_
    refine f_lcmp (M := mL_law) 2749 dL_law_2748 rfl ?_
    refine e_if_eqT (M := mL_law) 2754 dL_law_2749 rfl (lc_eq.mpr (hv z)) ?_
    refine f_goto (M := mL_law) 2888 dL_law_2754 rfl ?_
    refine f_iinc (M := mL_law) (ls' := [_, _, _, _, _, _, _, _]) 2891 dL_law_2888 ki_7 rfl rfl rfl rfl ?_
    refine f_goto (M := mL_law) 23 dL_law_2891 rfl ?_
    rw [show Int32.ofNat (7 * N) + 7 = Int32.ofNat (7 * (N + 1)) from ix_add rfl kn_7]; exact hr
  · refine ⟨I2, L2, R1, some (.int k0), some (.int v), w7, c + 2, k + 12, T2, by omega, by omega, fun r hr => ?_⟩
    refine e_tsI (j := 44) (off := 2661) 2701 dL_law_40 rfl (by rw [hx]; decide) (by decide) rfl rfl ?_
    refine f_aload_n (M := mL_law) 2702 dL_law_2701 rfl rfl ?_
    refine f_aload_n (M := mL_law) 2703 dL_law_2702 rfl rfl ?_
    refine f_iload (M := mL_law) 2705 dL_law_2703 rfl rfl ?_
    refine f_iconst (M := mL_law) 2706 dL_law_2705 ki_1 rfl ?_
    refine f_iadd (M := mL_law) 2707 dL_law_2706 rfl ?_
    refine e_iaf (M := mL_law) (w := Lw) (f := xs) (j := (7 * N) + (1)) dL_law_2707 (x_kk rfl) rfl (ix_add rfl kn_1) (by omega) (by omega) ?_
    refine f_aload_n (M := mL_law) 2709 dL_law_2708 rfl rfl ?_
    refine e_cS (M := mL_law) [_] (c + 2) (k + 12) dL_law_2709 pa_10312 cc_10312 rfl rfl rfl rfl rfl (show c + 2 ≤ 601024 by omega) (show k + 12 ≤ 7293034 by omega) rfl (h1) rfl ?_
    refine f_istore (M := mL_law) (ls' := [_, _, _, _, _, _, _, _]) 2714 dL_law_2712 rfl rfl rfl ?_
    refine f_aload_n (M := mL_law) 2715 dL_law_2714 rfl rfl ?_
    refine f_aload_n (M := mL_law) 2716 dL_law_2715 rfl rfl ?_
    refine f_iload (M := mL_law) 2718 dL_law_2716 rfl rfl ?_
    refine f_iconst (M := mL_law) 2719 dL_law_2718 ki_1 rfl ?_
    refine f_iadd (M := mL_law) 2720 dL_law_2719 rfl ?_
    refine e_iaf (M := mL_law) (w := Lw) (f := xs) (j := (7 * N) + (1)) dL_law_2720 (x_kk rfl) rfl (ix_add rfl kn_1) (by omega) (by omega) ?_
    refine e_cV (M := mL_law) [_] (c + 2) (k + 12) dL_law_2721 pa_10314 pb_10314 cc_10314 rfl rfl rfl rfl rfl (show c + 2 ≤ 601024 by omega) (show k + 12 ≤ 7293034 by omega) rfl (h2) rfl ?_
    refine f_istore (M := mL_law) (ls' := [_, _, _, _, _, _, _, _]) 2726 dL_law_2724 rfl rfl rfl ?_
    refine f_aload_n (M := mL_law) 2727 dL_law_2726 rfl rfl ?_
    refine e_cV (M := mL_law) [_] (c + 2) (k + 12) dL_law_2727 pa_10163 pb_10163 cc_10163 rfl rfl rfl rfl rfl (show c + 2 ≤ 601024 by omega) (show k + 12 ≤ 7293034 by omega) rfl (c_X9_thrown) rfl ?_
    refine f_iload (M := mL_law) 2732 dL_law_2730 rfl rfl ?_
    refine e_icmp_eqT (M := mL_law) 2737 dL_law_2732 rfl ht ?_
    refine f_iload (M := mL_law) 2739 dL_law_2737 rfl rfl ?_
    refine e_if_neT (M := mL_law) 2754 dL_law_2739 rfl z ?_
    refine f_goto (M := mL_law) 2888 dL_law_2754 rfl ?_
    refine f_iinc (M := mL_law) (ls' := [_, _, _, _, _, _, _, _]) 2891 dL_law_2888 ki_7 rfl rfl rfl rfl ?_
    refine f_goto (M := mL_law) 23 dL_law_2891 rfl ?_
    rw [show Int32.ofNat (7 * N) + 7 = Int32.ofNat (7 * (N + 1)) from ix_add rfl kn_7]; exact hr
theorem lk_45 (hlen : 7 * N + 7 ≤ Lw) (hLw : Lw ≤ 3584) (T : y_T N I L R) (hN : N < 512) (hc : c ≤ 233 + 4 * N) (hk : k ≤ 14655 + 24 * N) (hx : xs (7 * N) &&& 63 = Int32.ofNat 45) : y_Nx Lw xs N I L R c k w5 w6 w7 := by
  have sm : y_OI N (Lw, xs) mL_declareDefault [.ref 0, .ref 232] mX9_declareDefault [.ref 225] I L R := sim_declareDefault (X := (Lw, xs)) T
  obtain ⟨k0, I1, L1, R1, v, I2, L2, h1, h2, ht, hv, T2⟩ := sm
  by_cases z : k0 = 0
  · refine ⟨I2, L2, R1, some (.int k0), some (.int v), w7, c + 1, k + 6, T2, by omega, by omega, fun r hr => ?_⟩
    refine e_tsI (j := 45) (off := 2717) 2757 dL_law_40 rfl (by rw [hx]; decide) (by decide) rfl rfl ?_
    refine f_aload_n (M := mL_law) 2758 dL_law_2757 rfl rfl ?_
    refine f_aload_n (M := mL_law) 2759 dL_law_2758 rfl rfl ?_
    refine e_cS (M := mL_law) [_] (c + 1) (k + 6) dL_law_2759 pa_10315 cc_10315 rfl rfl rfl rfl rfl (show c + 1 ≤ 601024 by omega) (show k + 6 ≤ 7293034 by omega) rfl (h1) rfl ?_
    refine f_istore (M := mL_law) (ls' := [_, _, _, _, _, _, _, _]) 2764 dL_law_2762 rfl rfl rfl ?_
    refine f_aload_n (M := mL_law) 2765 dL_law_2764 rfl rfl ?_
    refine e_cV (M := mL_law) [_] (c + 1) (k + 6) dL_law_2765 pa_10317 pb_10317 cc_10317 rfl rfl rfl rfl rfl (show c + 1 ≤ 601024 by omega) (show k + 6 ≤ 7293034 by omega) rfl (h2) rfl ?_
    refine f_istore (M := mL_law) (ls' := [_, _, _, _, _, _, _, _]) 2770 dL_law_2768 rfl rfl rfl ?_
    refine f_aload_n (M := mL_law) 2771 dL_law_2770 rfl rfl ?_
    refine e_cV (M := mL_law) [_] (c + 1) (k + 6) dL_law_2771 pa_10163 pb_10163 cc_10163 rfl rfl rfl rfl rfl (show c + 1 ≤ 601024 by omega) (show k + 6 ≤ 7293034 by omega) rfl (c_X9_thrown) rfl ?_
    refine f_iload (M := mL_law) 2776 dL_law_2774 rfl rfl ?_
    refine e_icmp_eqT (M := mL_law) 2781 dL_law_2776 rfl ht ?_
    refine f_iload (M := mL_law) 2783 dL_law_2781 rfl rfl ?_
    refine e_if_neF (M := mL_law) 2798 dL_law_2783 rfl (fun q => q z) ?_
    refine f_aload_n (M := mL_law) 2787 dL_law_2786 rfl rfl ?_
    refine f_iconst (M := mL_law) 2788 dL_law_2787 ki_0 rfl ?_
    refine e_lld (M := mL_law) (w := 1) (j := 0) dL_law_2788 (x_kk rfl) rfl kn_0 (by omega) (by omega) ?_
    refine f_iload (M := mL_law) 2791 dL_law_2789 rfl rfl ?_
    refine f_i2l (M := mL_law) 2792 dL_law_2791 rfl ?_
    refine f_lcmp (M := mL_law) 2793 dL_law_2792 rfl ?_
    refine e_if_eqT (M := mL_law) 2798 dL_law_2793 rfl (lc_eq.mpr (hv z)) ?_
    refine f_goto (M := mL_law) 2888 dL_law_2798 rfl ?_
    refine f_iinc (M := mL_law) (ls' := [_, _, _, _, _, _, _, _]) 2891 dL_law_2888 ki_7 rfl rfl rfl rfl ?_
    refine f_goto (M := mL_law) 23 dL_law_2891 rfl ?_
    rw [show Int32.ofNat (7 * N) + 7 = Int32.ofNat (7 * (N + 1)) from ix_add rfl kn_7]; exact hr
  · refine ⟨I2, L2, R1, some (.int k0), some (.int v), w7, c + 1, k + 6, T2, by omega, by omega, fun r hr => ?_⟩
    refine e_tsI (j := 45) (off := 2717) 2757 dL_law_40 rfl (by rw [hx]; decide) (by decide) rfl rfl ?_
    refine f_aload_n (M := mL_law) 2758 dL_law_2757 rfl rfl ?_
    refine f_aload_n (M := mL_law) 2759 dL_law_2758 rfl rfl ?_
    refine e_cS (M := mL_law) [_] (c + 1) (k + 6) dL_law_2759 pa_10315 cc_10315 rfl rfl rfl rfl rfl (show c + 1 ≤ 601024 by omega) (show k + 6 ≤ 7293034 by omega) rfl (h1) rfl ?_
    refine f_istore (M := mL_law) (ls' := [_, _, _, _, _, _, _, _]) 2764 dL_law_2762 rfl rfl rfl ?_
    refine f_aload_n (M := mL_law) 2765 dL_law_2764 rfl rfl ?_
    refine e_cV (M := mL_law) [_] (c + 1) (k + 6) dL_law_2765 pa_10317 pb_10317 cc_10317 rfl rfl rfl rfl rfl (show c + 1 ≤ 601024 by omega) (show k + 6 ≤ 7293034 by omega) rfl (h2) rfl ?_
    refine f_istore (M := mL_law) (ls' := [_, _, _, _, _, _, _, _]) 2770 dL_law_2768 rfl rfl rfl ?_
    refine f_aload_n (M := mL_law) 2771 dL_law_2770 rfl rfl ?_
    refine e_cV (M := mL_law) [_] (c + 1) (k + 6) dL_law_2771 pa_10163 pb_10163 cc_10163 rfl rfl rfl rfl rfl (show c + 1 ≤ 601024 by omega) (show k + 6 ≤ 7293034 by omega) rfl (c_X9_thrown) rfl ?_
    refine f_iload (M := mL_law) 2776 dL_law_2774 rfl rfl ?_
    refine e_icmp_eqT (M := mL_law) 2781 dL_law_2776 rfl ht ?_
    refine f_iload (M := mL_law) 2783 dL_law_2781 rfl rfl ?_
    refine e_if_neT (M := mL_law) 2798 dL_law_2783 rfl z ?_
    refine f_goto (M := mL_law) 2888 dL_law_2798 rfl ?_
    refine f_iinc (M := mL_law) (ls' := [_, _, _, _, _, _, _, _]) 2891 dL_law_2888 ki_7 rfl rfl rfl rfl ?_
    refine f_goto (M := mL_law) 23 dL_law_2891 rfl ?_
    rw [show Int32.ofNat (7 * N) + 7 = Int32.ofNat (7 * (N + 1)) from ix_add rfl kn_7]; exact hr
theorem lk_46 (hlen : 7 * N + 7 ≤ Lw) (hLw : Lw ≤ 3584) (T : y_T N I L R) (hN : N < 512) (hc : c ≤ 233 + 4 * N) (hk : k ≤ 14655 + 24 * N) (hx : xs (7 * N) &&& 63 = Int32.ofNat 46) : y_Nx Lw xs N I L R c k w5 w6 w7 := by
  have sm : y_OL N (Lw, xs) mL_damages [.ref 0, .ref 232] mX9_damages [.ref 225] I L R := sim_damages (X := (Lw, xs)) T
  obtain ⟨k0, I1, L1, R1, v, I2, L2, h1, h2, ht, hv, T2⟩ := sm
  by_cases z : k0 = 0
  · refine ⟨I2, L2, R1, some (.int k0), some (.long v), none, c + 1, k + 6, T2, by omega, by omega, fun r hr => ?_⟩
    refine e_tsI (j := 46) (off := 2761) 2801 dL_law_40 rfl (by rw [hx]; decide) (by decide) rfl rfl ?_
    refine f_aload_n (M := mL_law) 2802 dL_law_2801 rfl rfl ?_
    refine f_aload_n (M := mL_law) 2803 dL_law_2802 rfl rfl ?_
    refine e_cS (M := mL_law) [_] (c + 1) (k + 6) dL_law_2803 pa_10318 cc_10318 rfl rfl rfl rfl rfl (show c + 1 ≤ 601024 by omega) (show k + 6 ≤ 7293034 by omega) rfl (h1) rfl ?_
    refine f_istore (M := mL_law) (ls' := [_, _, _, _, _, _, _, _]) 2808 dL_law_2806 rfl rfl rfl ?_
    refine f_aload_n (M := mL_law) 2809 dL_law_2808 rfl rfl ?_
    refine e_cV (M := mL_law) [_] (c + 1) (k + 6) dL_law_2809 pa_10320 pb_10320 cc_10320 rfl rfl rfl rfl rfl (show c + 1 ≤ 601024 by omega) (show k + 6 ≤ 7293034 by omega) rfl (h2) rfl ?_
    refine f_lstore (M := mL_law) (ls' := [_, _, _, _, _, _, _, _]) 2814 dL_law_2812 rfl rfl rfl ?_
    refine f_aload_n (M := mL_law) 2815 dL_law_2814 rfl rfl ?_
    refine e_cV (M := mL_law) [_] (c + 1) (k + 6) dL_law_2815 pa_10163 pb_10163 cc_10163 rfl rfl rfl rfl rfl (show c + 1 ≤ 601024 by omega) (show k + 6 ≤ 7293034 by omega) rfl (c_X9_thrown) rfl ?_
    refine f_iload (M := mL_law) 2820 dL_law_2818 rfl rfl ?_
    refine e_icmp_eqT (M := mL_law) 2825 dL_law_2820 rfl ht ?_
    refine f_iload (M := mL_law) 2827 dL_law_2825 rfl rfl ?_
    refine e_if_neF (M := mL_law) 2841 dL_law_2827 rfl (fun q => q z) ?_
    refine f_aload_n (M := mL_law) 2831 dL_law_2830 rfl rfl ?_
    refine f_iconst (M := mL_law) 2832 dL_law_2831 ki_0 rfl ?_
    refine e_lld (M := mL_law) (w := 1) (j := 0) dL_law_2832 (x_kk rfl) rfl kn_0 (by omega) (by omega) ?_
    refine f_lload (M := mL_law) 2835 dL_law_2833 rfl rfl ?_
    refine f_lcmp (M := mL_law) 2836 dL_law_2835 rfl ?_
    refine e_if_eqT (M := mL_law) 2841 dL_law_2836 rfl (lc_eq.mpr (hv z)) ?_
    refine f_goto (M := mL_law) 2888 dL_law_2841 rfl ?_
    refine f_iinc (M := mL_law) (ls' := [_, _, _, _, _, _, _, _]) 2891 dL_law_2888 ki_7 rfl rfl rfl rfl ?_
    refine f_goto (M := mL_law) 23 dL_law_2891 rfl ?_
    rw [show Int32.ofNat (7 * N) + 7 = Int32.ofNat (7 * (N + 1)) from ix_add rfl kn_7]; exact hr
  · refine ⟨I2, L2, R1, some (.int k0), some (.long v), none, c + 1, k + 6, T2, by omega, by omega, fun r hr => ?_⟩
    refine e_tsI (j := 46) (off := 2761) 2801 dL_law_40 rfl (by rw [hx]; decide) (by decide) rfl rfl ?_
    refine f_aload_n (M := mL_law) 2802 dL_law_2801 rfl rfl ?_
    refine f_aload_n (M := mL_law) 2803 dL_law_2802 rfl rfl ?_
    refine e_cS (M := mL_law) [_] (c + 1) (k + 6) dL_law_2803 pa_10318 cc_10318 rfl rfl rfl rfl rfl (show c + 1 ≤ 601024 by omega) (show k + 6 ≤ 7293034 by omega) rfl (h1) rfl ?_
    refine f_istore (M := mL_law) (ls' := [_, _, _, _, _, _, _, _]) 2808 dL_law_2806 rfl rfl rfl ?_
    refine f_aload_n (M := mL_law) 2809 dL_law_2808 rfl rfl ?_
    refine e_cV (M := mL_law) [_] (c + 1) (k + 6) dL_law_2809 pa_10320 pb_10320 cc_10320 rfl rfl rfl rfl rfl (show c + 1 ≤ 601024 by omega) (show k + 6 ≤ 7293034 by omega) rfl (h2) rfl ?_
    refine f_lstore (M := mL_law) (ls' := [_, _, _, _, _, _, _, _]) 2814 dL_law_2812 rfl rfl rfl ?_
    refine f_aload_n (M := mL_law) 2815 dL_law_2814 rfl rfl ?_
    refine e_cV (M := mL_law) [_] (c + 1) (k + 6) dL_law_2815 pa_10163 pb_10163 cc_10163 rfl rfl rfl rfl rfl (show c + 1 ≤ 601024 by omega) (show k + 6 ≤ 7293034 by omega) rfl (c_X9_thrown) rfl ?_
    refine f_iload (M := mL_law) 2820 dL_law_2818 rfl rfl ?_
    refine e_icmp_eqT (M := mL_law) 2825 dL_law_2820 rfl ht ?_
    refine f_iload (M := mL_law) 2827 dL_law_2825 rfl rfl ?_
    refine e_if_neT (M := mL_law) 2841 dL_law_2827 rfl z ?_
    refine f_goto (M := mL_law) 2888 dL_law_2841 rfl ?_
    refine f_iinc (M := mL_law) (ls' := [_, _, _, _, _, _, _, _]) 2891 dL_law_2888 ki_7 rfl rfl rfl rfl ?_
    refine f_goto (M := mL_law) 23 dL_law_2891 rfl ?_
    rw [show Int32.ofNat (7 * N) + 7 = Int32.ofNat (7 * (N + 1)) from ix_add rfl kn_7]; exact hr
theorem lk_47 (hlen : 7 * N + 7 ≤ Lw) (hLw : Lw ≤ 3584) (T : y_T N I L R) (hN : N < 512) (hc : c ≤ 233 + 4 * N) (hk : k ≤ 14655 + 24 * N) (hx : xs (7 * N) &&& 63 = Int32.ofNat 47) : y_Nx Lw xs N I L R c k w5 w6 w7 := by
  have sm : y_OI N (Lw, xs) mL_undo [.ref 0, .ref 232] mX9_undo [.ref 225] I L R := sim_undo (X := (Lw, xs)) T
  obtain ⟨k0, I1, L1, R1, v, I2, L2, h1, h2, ht, hv, T2⟩ := sm
  by_cases z : k0 = 0
  · refine ⟨I2, L2, R1, some (.int k0), some (.int v), w7, c + 1, k + 6, T2, by omega, by omega, fun r hr => ?_⟩
    refine e_tsI (j := 47) (off := 2804) 2844 dL_law_40 rfl (by rw [hx]; decide) (by decide) rfl rfl ?_
    refine f_aload_n (M := mL_law) 2845 dL_law_2844 rfl rfl ?_
    refine f_aload_n (M := mL_law) 2846 dL_law_2845 rfl rfl ?_
    refine e_cS (M := mL_law) [_] (c + 1) (k + 6) dL_law_2846 pa_10321 cc_10321 rfl rfl rfl rfl rfl (show c + 1 ≤ 601024 by omega) (show k + 6 ≤ 7293034 by omega) rfl (h1) rfl ?_
    refine f_istore (M := mL_law) (ls' := [_, _, _, _, _, _, _, _]) 2851 dL_law_2849 rfl rfl rfl ?_
    refine f_aload_n (M := mL_law) 2852 dL_law_2851 rfl rfl ?_
    refine e_cV (M := mL_law) [_] (c + 1) (k + 6) dL_law_2852 pa_10323 pb_10323 cc_10323 rfl rfl rfl rfl rfl (show c + 1 ≤ 601024 by omega) (show k + 6 ≤ 7293034 by omega) rfl (h2) rfl ?_
    refine f_istore (M := mL_law) (ls' := [_, _, _, _, _, _, _, _]) 2857 dL_law_2855 rfl rfl rfl ?_
    refine f_aload_n (M := mL_law) 2858 dL_law_2857 rfl rfl ?_
    refine e_cV (M := mL_law) [_] (c + 1) (k + 6) dL_law_2858 pa_10163 pb_10163 cc_10163 rfl rfl rfl rfl rfl (show c + 1 ≤ 601024 by omega) (show k + 6 ≤ 7293034 by omega) rfl (c_X9_thrown) rfl ?_
    refine f_iload (M := mL_law) 2863 dL_law_2861 rfl rfl ?_
    refine e_icmp_eqT (M := mL_law) 2868 dL_law_2863 rfl ht ?_
    refine f_iload (M := mL_law) 2870 dL_law_2868 rfl rfl ?_
    refine e_if_neF (M := mL_law) 2885 dL_law_2870 rfl (fun q => q z) ?_
    refine f_aload_n (M := mL_law) 2874 dL_law_2873 rfl rfl ?_
    refine f_iconst (M := mL_law) 2875 dL_law_2874 ki_0 rfl ?_
    refine e_lld (M := mL_law) (w := 1) (j := 0) dL_law_2875 (x_kk rfl) rfl kn_0 (by omega) (by omega) ?_
    refine f_iload (M := mL_law) 2878 dL_law_2876 rfl rfl ?_
    refine f_i2l (M := mL_law) 2879 dL_law_2878 rfl ?_
    refine f_lcmp (M := mL_law) 2880 dL_law_2879 rfl ?_
    refine e_if_eqT (M := mL_law) 2885 dL_law_2880 rfl (lc_eq.mpr (hv z)) ?_
    refine f_goto (M := mL_law) 2888 dL_law_2885 rfl ?_
    refine f_iinc (M := mL_law) (ls' := [_, _, _, _, _, _, _, _]) 2891 dL_law_2888 ki_7 rfl rfl rfl rfl ?_
    refine f_goto (M := mL_law) 23 dL_law_2891 rfl ?_
    rw [show Int32.ofNat (7 * N) + 7 = Int32.ofNat (7 * (N + 1)) from ix_add rfl kn_7]; exact hr
  · refine ⟨I2, L2, R1, some (.int k0), some (.int v), w7, c + 1, k + 6, T2, by omega, by omega, fun r hr => ?_⟩
    refine e_tsI (j := 47) (off := 2804) 2844 dL_law_40 rfl (by rw [hx]; decide) (by decide) rfl rfl ?_
    refine f_aload_n (M := mL_law) 2845 dL_law_2844 rfl rfl ?_
    refine f_aload_n (M := mL_law) 2846 dL_law_2845 rfl rfl ?_
    refine e_cS (M := mL_law) [_] (c + 1) (k + 6) dL_law_2846 pa_10321 cc_10321 rfl rfl rfl rfl rfl (show c + 1 ≤ 601024 by omega) (show k + 6 ≤ 7293034 by omega) rfl (h1) rfl ?_
    refine f_istore (M := mL_law) (ls' := [_, _, _, _, _, _, _, _]) 2851 dL_law_2849 rfl rfl rfl ?_
    refine f_aload_n (M := mL_law) 2852 dL_law_2851 rfl rfl ?_
    refine e_cV (M := mL_law) [_] (c + 1) (k + 6) dL_law_2852 pa_10323 pb_10323 cc_10323 rfl rfl rfl rfl rfl (show c + 1 ≤ 601024 by omega) (show k + 6 ≤ 7293034 by omega) rfl (h2) rfl ?_
    refine f_istore (M := mL_law) (ls' := [_, _, _, _, _, _, _, _]) 2857 dL_law_2855 rfl rfl rfl ?_
    refine f_aload_n (M := mL_law) 2858 dL_law_2857 rfl rfl ?_
    refine e_cV (M := mL_law) [_] (c + 1) (k + 6) dL_law_2858 pa_10163 pb_10163 cc_10163 rfl rfl rfl rfl rfl (show c + 1 ≤ 601024 by omega) (show k + 6 ≤ 7293034 by omega) rfl (c_X9_thrown) rfl ?_
    refine f_iload (M := mL_law) 2863 dL_law_2861 rfl rfl ?_
    refine e_icmp_eqT (M := mL_law) 2868 dL_law_2863 rfl ht ?_
    refine f_iload (M := mL_law) 2870 dL_law_2868 rfl rfl ?_
    refine e_if_neT (M := mL_law) 2885 dL_law_2870 rfl z ?_
    refine f_goto (M := mL_law) 2888 dL_law_2885 rfl ?_
    refine f_iinc (M := mL_law) (ls' := [_, _, _, _, _, _, _, _]) 2891 dL_law_2888 ki_7 rfl rfl rfl rfl ?_
    refine f_goto (M := mL_law) 23 dL_law_2891 rfl ?_
    rw [show Int32.ofNat (7 * N) + 7 = Int32.ofNat (7 * (N + 1)) from ix_add rfl kn_7]; exact hr
end
end

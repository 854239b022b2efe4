/-! ===== the law, second: cases 2 to 11 (laid by wip/whole/src/law2.py) ===== -/
section
variable {X : x_X} {I : Nat → Nat → Int32} {L : Nat → Nat → Int64} {R : Nat → Nat → Option Nat} {N : Nat}
section
variable {Lw c k : Nat} {xs : Nat → Int32} {w5 w6 w7 : Option Value}
theorem lk_2 (hlen : 7 * N + 7 ≤ Lw) (hLw : Lw ≤ 3584) (T : y_T N I L R) (hN : N < 512) (hc : c ≤ 233 + 4 * N) (hk : k ≤ 14655 + 24 * N) (hx : xs (7 * N) &&& 63 = Int32.ofNat 2) : y_Nx Lw xs N I L R c k w5 w6 w7 := by
  have sm : y_DI N (Lw, xs) mX8_errorPosition [.ref 0] mX9_errorPosition [.ref 225] I L R := sim_errorPosition (X := (Lw, xs)) T
  obtain ⟨v, I2, L2, h1, h2, T2⟩ := sm
  refine ⟨I2, L2, R, w5, w6, w7, c + 0, k + 0, T2, by omega, by omega, fun r hr => ?_⟩
  refine e_tsI (j := 2) (off := 368) 408 dL_law_40 rfl (by rw [hx]; decide) (by decide) rfl rfl ?_
  refine f_aload_n (M := mL_law) 409 dL_law_408 rfl rfl ?_
  refine e_cV (M := mL_law) [_] (c + 0) (k + 0) dL_law_409 pa_10170 pb_10170 cc_10170 rfl rfl rfl rfl rfl (show c + 0 ≤ 601024 by omega) (show k + 0 ≤ 7293034 by omega) rfl (h1) rfl ?_
  refine f_aload_n (M := mL_law) 413 dL_law_412 rfl rfl ?_
  refine e_cV (M := mL_law) [_, _] (c + 0) (k + 0) dL_law_413 pa_10173 pb_10173 cc_10173 rfl rfl rfl rfl rfl (show c + 0 ≤ 601024 by omega) (show k + 0 ≤ 7293034 by omega) rfl (h2) rfl ?_
  refine e_icmp_eqT (M := mL_law) 2888 dL_law_416 rfl rfl ?_
  refine f_iinc (M := mL_law) (ls' := [_, _, _, _, _, _, _, _]) 2891 dL_law_2888 ki_7 rfl rfl rfl rfl ?_
  refine f_goto (M := mL_law) 23 dL_law_2891 rfl ?_
  rw [show Int32.ofNat (7 * N) + 7 = Int32.ofNat (7 * (N + 1)) from ix_add rfl kn_7]; exact hr
theorem lk_3 (hlen : 7 * N + 7 ≤ Lw) (hLw : Lw ≤ 3584) (T : y_T N I L R) (hN : N < 512) (hc : c ≤ 233 + 4 * N) (hk : k ≤ 14655 + 24 * N) (hx : xs (7 * N) &&& 63 = Int32.ofNat 3) : y_Nx Lw xs N I L R c k w5 w6 w7 := by
  have sm : y_DI N (Lw, xs) mX8_phase [.ref 0] mX9_phase [.ref 225] I L R := sim_phase (X := (Lw, xs)) T
  obtain ⟨v, I2, L2, h1, h2, T2⟩ := sm
  refine ⟨I2, L2, R, w5, w6, w7, c + 0, k + 0, T2, by omega, by omega, fun r hr => ?_⟩
  refine e_tsI (j := 3) (off := 381) 421 dL_law_40 rfl (by rw [hx]; decide) (by decide) rfl rfl ?_
  refine f_aload_n (M := mL_law) 422 dL_law_421 rfl rfl ?_
  refine e_cV (M := mL_law) [_] (c + 0) (k + 0) dL_law_422 pa_10174 pb_10174 cc_10174 rfl rfl rfl rfl rfl (show c + 0 ≤ 601024 by omega) (show k + 0 ≤ 7293034 by omega) rfl (h1) rfl ?_
  refine f_aload_n (M := mL_law) 426 dL_law_425 rfl rfl ?_
  refine e_cV (M := mL_law) [_, _] (c + 0) (k + 0) dL_law_426 pa_10177 pb_10177 cc_10177 rfl rfl rfl rfl rfl (show c + 0 ≤ 601024 by omega) (show k + 0 ≤ 7293034 by omega) rfl (h2) rfl ?_
  refine e_icmp_eqT (M := mL_law) 2888 dL_law_429 rfl rfl ?_
  refine f_iinc (M := mL_law) (ls' := [_, _, _, _, _, _, _, _]) 2891 dL_law_2888 ki_7 rfl rfl rfl rfl ?_
  refine f_goto (M := mL_law) 23 dL_law_2891 rfl ?_
  rw [show Int32.ofNat (7 * N) + 7 = Int32.ofNat (7 * (N + 1)) from ix_add rfl kn_7]; exact hr
theorem lk_4 (hlen : 7 * N + 7 ≤ Lw) (hLw : Lw ≤ 3584) (T : y_T N I L R) (hN : N < 512) (hc : c ≤ 233 + 4 * N) (hk : k ≤ 14655 + 24 * N) (hx : xs (7 * N) &&& 63 = Int32.ofNat 4) : y_Nx Lw xs N I L R c k w5 w6 w7 := by
  have sm : y_DI N (Lw, xs) mX8_plotCount [.ref 0] mX9_plotCount [.ref 225] I L R := sim_plotCount (X := (Lw, xs)) T
  obtain ⟨v, I2, L2, h1, h2, T2⟩ := sm
  refine ⟨I2, L2, R, w5, w6, w7, c + 0, k + 0, T2, by omega, by omega, fun r hr => ?_⟩
  refine e_tsI (j := 4) (off := 394) 434 dL_law_40 rfl (by rw [hx]; decide) (by decide) rfl rfl ?_
  refine f_aload_n (M := mL_law) 435 dL_law_434 rfl rfl ?_
  refine e_cV (M := mL_law) [_] (c + 0) (k + 0) dL_law_435 pa_10178 pb_10178 cc_10178 rfl rfl rfl rfl rfl (show c + 0 ≤ 601024 by omega) (show k + 0 ≤ 7293034 by omega) rfl (h1) rfl ?_
  refine f_aload_n (M := mL_law) 439 dL_law_438 rfl rfl ?_
  refine e_cV (M := mL_law) [_, _] (c + 0) (k + 0) dL_law_439 pa_10181 pb_10181 cc_10181 rfl rfl rfl rfl rfl (show c + 0 ≤ 601024 by omega) (show k + 0 ≤ 7293034 by omega) rfl (h2) rfl ?_
  refine e_icmp_eqT (M := mL_law) 2888 dL_law_442 rfl rfl ?_
  refine f_iinc (M := mL_law) (ls' := [_, _, _, _, _, _, _, _]) 2891 dL_law_2888 ki_7 rfl rfl rfl rfl ?_
  refine f_goto (M := mL_law) 23 dL_law_2891 rfl ?_
  rw [show Int32.ofNat (7 * N) + 7 = Int32.ofNat (7 * (N + 1)) from ix_add rfl kn_7]; exact hr
theorem lk_5 (hlen : 7 * N + 7 ≤ Lw) (hLw : Lw ≤ 3584) (T : y_T N I L R) (hN : N < 512) (hc : c ≤ 233 + 4 * N) (hk : k ≤ 14655 + 24 * N) (hx : xs (7 * N) &&& 63 = Int32.ofNat 5) : y_Nx Lw xs N I L R c k w5 w6 w7 := by
  have sm : y_OI N (Lw, xs) mL_addPlot [.ref 0, .int (xs (7 * N + 1)), .int (xs (7 * N + 2)), .int (xs (7 * N + 3)), .int (xs (7 * N + 4)), .int (xs (7 * N + 5)), .int (xs (7 * N + 6)), .ref 232] mX9_addPlot [.ref 225, .int (xs (7 * N + 1)), .int (xs (7 * N + 2)), .int (xs (7 * N + 3)), .int (xs (7 * N + 4)), .int (xs (7 * N + 5)), .int (xs (7 * N + 6))] I L R := sim_addPlot (X := (Lw, xs)) T
  obtain ⟨k0, I1, L1, R1, v, I2, L2, h1, h2, ht, hv, T2⟩ := sm
  by_cases z : k0 = 0
  · refine ⟨I2, L2, R1, some (.int k0), some (.int v), w7, c + 2, k + 12, T2, by omega, by omega, fun r hr => ?_⟩
    refine e_tsI (j := 5) (off := 407) 447 dL_law_40 rfl (by rw [hx]; decide) (by decide) rfl rfl ?_
    refine f_aload_n (M := mL_law) 448 dL_law_447 rfl rfl ?_
    refine f_aload_n (M := mL_law) 449 dL_law_448 rfl rfl ?_
    refine f_iload (M := mL_law) 451 dL_law_449 rfl rfl ?_
    refine f_iconst (M := mL_law) 452 dL_law_451 ki_1 rfl ?_
    refine f_iadd (M := mL_law) 453 dL_law_452 rfl ?_
    refine e_iaf (M := mL_law) (w := Lw) (f := xs) (j := (7 * N) + (1)) dL_law_453 (x_kk rfl) rfl (ix_add rfl kn_1) (by omega) (by omega) ?_
    refine f_aload_n (M := mL_law) 455 dL_law_454 rfl rfl ?_
    refine f_iload (M := mL_law) 457 dL_law_455 rfl rfl ?_
    refine f_iconst (M := mL_law) 458 dL_law_457 ki_2 rfl ?_
    refine f_iadd (M := mL_law) 459 dL_law_458 rfl ?_
    refine e_iaf (M := mL_law) (w := Lw) (f := xs) (j := (7 * N) + (2)) dL_law_459 (x_kk rfl) rfl (ix_add rfl kn_2) (by omega) (by omega) ?_
    refine f_aload_n (M := mL_law) 461 dL_law_460 rfl rfl ?_
    refine f_iload (M := mL_law) 463 dL_law_461 rfl rfl ?_
    refine f_iconst (M := mL_law) 464 dL_law_463 ki_3 rfl ?_
    refine f_iadd (M := mL_law) 465 dL_law_464 rfl ?_
    refine e_iaf (M := mL_law) (w := Lw) (f := xs) (j := (7 * N) + (3)) dL_law_465 (x_kk rfl) rfl (ix_add rfl kn_3) (by omega) (by omega) ?_
    refine f_aload_n (M := mL_law) 467 dL_law_466 rfl rfl ?_
    refine f_iload (M := mL_law) 469 dL_law_467 rfl rfl ?_
    refine f_iconst (M := mL_law) 470 dL_law_469 ki_4 rfl ?_
    refine f_iadd (M := mL_law) 471 dL_law_470 rfl ?_
    refine e_iaf (M := mL_law) (w := Lw) (f := xs) (j := (7 * N) + (4)) dL_law_471 (x_kk rfl) rfl (ix_add rfl kn_4) (by omega) (by omega) ?_
    refine f_aload_n (M := mL_law) 473 dL_law_472 rfl rfl ?_
    refine f_iload (M := mL_law) 475 dL_law_473 rfl rfl ?_
    refine f_iconst (M := mL_law) 476 dL_law_475 ki_5 rfl ?_
    refine f_iadd (M := mL_law) 477 dL_law_476 rfl ?_
    refine e_iaf (M := mL_law) (w := Lw) (f := xs) (j := (7 * N) + (5)) dL_law_477 (x_kk rfl) rfl (ix_add rfl kn_5) (by omega) (by omega) ?_
    refine f_aload_n (M := mL_law) 479 dL_law_478 rfl rfl ?_
    refine f_iload (M := mL_law) 481 dL_law_479 rfl rfl ?_
    refine f_bipush (M := mL_law) 483 dL_law_481 kb_6 rfl ?_
    refine f_iadd (M := mL_law) 484 dL_law_483 rfl ?_
    refine e_iaf (M := mL_law) (w := Lw) (f := xs) (j := (7 * N) + (6)) dL_law_484 (x_kk rfl) rfl (ix_add rfl kn_6) (by omega) (by omega) ?_
    refine f_aload_n (M := mL_law) 486 dL_law_485 rfl rfl ?_
    refine e_cS (M := mL_law) [_] (c + 2) (k + 12) dL_law_486 pa_10182 cc_10182 rfl rfl rfl rfl rfl (show c + 2 ≤ 601024 by omega) (show k + 12 ≤ 7293034 by omega) rfl (h1) rfl ?_
    refine f_istore (M := mL_law) (ls' := [_, _, _, _, _, _, _, _]) 491 dL_law_489 rfl rfl rfl ?_
    refine f_aload_n (M := mL_law) 492 dL_law_491 rfl rfl ?_
    refine f_aload_n (M := mL_law) 493 dL_law_492 rfl rfl ?_
    refine f_iload (M := mL_law) 495 dL_law_493 rfl rfl ?_
    refine f_iconst (M := mL_law) 496 dL_law_495 ki_1 rfl ?_
    refine f_iadd (M := mL_law) 497 dL_law_496 rfl ?_
    refine e_iaf (M := mL_law) (w := Lw) (f := xs) (j := (7 * N) + (1)) dL_law_497 (x_kk rfl) rfl (ix_add rfl kn_1) (by omega) (by omega) ?_
    refine f_aload_n (M := mL_law) 499 dL_law_498 rfl rfl ?_
    refine f_iload (M := mL_law) 501 dL_law_499 rfl rfl ?_
    refine f_iconst (M := mL_law) 502 dL_law_501 ki_2 rfl ?_
    refine f_iadd (M := mL_law) 503 dL_law_502 rfl ?_
    refine e_iaf (M := mL_law) (w := Lw) (f := xs) (j := (7 * N) + (2)) dL_law_503 (x_kk rfl) rfl (ix_add rfl kn_2) (by omega) (by omega) ?_
    refine f_aload_n (M := mL_law) 505 dL_law_504 rfl rfl ?_
    refine f_iload (M := mL_law) 507 dL_law_505 rfl rfl ?_
    refine f_iconst (M := mL_law) 508 dL_law_507 ki_3 rfl ?_
    refine f_iadd (M := mL_law) 509 dL_law_508 rfl ?_
    refine e_iaf (M := mL_law) (w := Lw) (f := xs) (j := (7 * N) + (3)) dL_law_509 (x_kk rfl) rfl (ix_add rfl kn_3) (by omega) (by omega) ?_
    refine f_aload_n (M := mL_law) 511 dL_law_510 rfl rfl ?_
    refine f_iload (M := mL_law) 513 dL_law_511 rfl rfl ?_
    refine f_iconst (M := mL_law) 514 dL_law_513 ki_4 rfl ?_
    refine f_iadd (M := mL_law) 515 dL_law_514 rfl ?_
    refine e_iaf (M := mL_law) (w := Lw) (f := xs) (j := (7 * N) + (4)) dL_law_515 (x_kk rfl) rfl (ix_add rfl kn_4) (by omega) (by omega) ?_
    refine f_aload_n (M := mL_law) 517 dL_law_516 rfl rfl ?_
    refine f_iload (M := mL_law) 519 dL_law_517 rfl rfl ?_
    refine f_iconst (M := mL_law) 520 dL_law_519 ki_5 rfl ?_
    refine f_iadd (M := mL_law) 521 dL_law_520 rfl ?_
    refine e_iaf (M := mL_law) (w := Lw) (f := xs) (j := (7 * N) + (5)) dL_law_521 (x_kk rfl) rfl (ix_add rfl kn_5) (by omega) (by omega) ?_
    refine f_aload_n (M := mL_law) 523 dL_law_522 rfl rfl ?_
    refine f_iload (M := mL_law) 525 dL_law_523 rfl rfl ?_
    refine f_bipush (M := mL_law) 527 dL_law_525 kb_6 rfl ?_
    refine f_iadd (M := mL_law) 528 dL_law_527 rfl ?_
    refine e_iaf (M := mL_law) (w := Lw) (f := xs) (j := (7 * N) + (6)) dL_law_528 (x_kk rfl) rfl (ix_add rfl kn_6) (by omega) (by omega) ?_
    refine e_cV (M := mL_law) [_] (c + 2) (k + 12) dL_law_529 pa_10185 pb_10185 cc_10185 rfl rfl rfl rfl rfl (show c + 2 ≤ 601024 by omega) (show k + 12 ≤ 7293034 by omega) rfl (h2) rfl ?_
    refine f_istore (M := mL_law) (ls' := [_, _, _, _, _, _, _, _]) 534 dL_law_532 rfl rfl rfl ?_
    refine f_aload_n (M := mL_law) 535 dL_law_534 rfl rfl ?_
    refine e_cV (M := mL_law) [_] (c + 2) (k + 12) dL_law_535 pa_10163 pb_10163 cc_10163 rfl rfl rfl rfl rfl (show c + 2 ≤ 601024 by omega) (show k + 12 ≤ 7293034 by omega) rfl (c_X9_thrown) rfl ?_
    refine f_iload (M := mL_law) 540 dL_law_538 rfl rfl ?_
    refine e_icmp_eqT (M := mL_law) 545 dL_law_540 rfl ht ?_
    refine f_iload (M := mL_law) 547 dL_law_545 rfl rfl ?_
    refine e_if_neF (M := mL_law) 562 dL_law_547 rfl (fun q => q z) ?_
    refine f_aload_n (M := mL_law) 551 dL_law_550 rfl rfl ?_
    refine f_iconst (M := mL_law) 552 dL_law_551 ki_0 rfl ?_
    refine e_lld (M := mL_law) (w := 1) (j := 0) dL_law_552 (x_kk rfl) rfl kn_0 (by omega) (by omega) ?_
    refine f_iload (M := mL_law) 555 dL_law_553 rfl rfl ?_
    refine f_i2l (M := mL_law) 556 dL_law_555 rfl ?_
    refine f_lcmp (M := mL_law) 557 dL_law_556 rfl ?_
    refine e_if_eqT (M := mL_law) 562 dL_law_557 rfl (lc_eq.mpr (hv z)) ?_
    refine f_goto (M := mL_law) 2888 dL_law_562 rfl ?_
    refine f_iinc (M := mL_law) (ls' := [_, _, _, _, _, _, _, _]) 2891 dL_law_2888 ki_7 rfl rfl rfl rfl ?_
    refine f_goto (M := mL_law) 23 dL_law_2891 rfl ?_
    rw [show Int32.ofNat (7 * N) + 7 = Int32.ofNat (7 * (N + 1)) from ix_add rfl kn_7]; exact hr
  · refine ⟨I2, L2, R1, some (.int k0), some (.int v), w7, c + 2, k + 12, T2, by omega, by omega, fun r hr => ?_⟩
    refine e_tsI (j := 5) (off := 407) 447 dL_law_40 rfl (by rw [hx]; decide) (by decide) rfl rfl ?_
    refine f_aload_n (M := mL_law) 448 dL_law_447 rfl rfl ?_
    refine f_aload_n (M := mL_law) 449 dL_law_448 rfl rfl ?_
    refine f_iload (M := mL_law) 451 dL_law_449 rfl rfl ?_
    refine f_iconst (M := mL_law) 452 dL_law_451 ki_1 rfl ?_
    refine f_iadd (M := mL_law) 453 dL_law_452 rfl ?_
    refine e_iaf (M := mL_law) (w := Lw) (f := xs) (j := (7 * N) + (1)) dL_law_453 (x_kk rfl) rfl (ix_add rfl kn_1) (by omega) (by omega) ?_
    refine f_aload_n (M := mL_law) 455 dL_law_454 rfl rfl ?_
    refine f_iload (M := mL_law) 457 dL_law_455 rfl rfl ?_
    refine f_iconst (M := mL_law) 458 dL_law_457 ki_2 rfl ?_
    refine f_iadd (M := mL_law) 459 dL_law_458 rfl ?_
    refine e_iaf (M := mL_law) (w := Lw) (f := xs) (j := (7 * N) + (2)) dL_law_459 (x_kk rfl) rfl (ix_add rfl kn_2) (by omega) (by omega) ?_
    refine f_aload_n (M := mL_law) 461 dL_law_460 rfl rfl ?_
    refine f_iload (M := mL_law) 463 dL_law_461 rfl rfl ?_
    refine f_iconst (M := mL_law) 464 dL_law_463 ki_3 rfl ?_
    refine f_iadd (M := mL_law) 465 dL_law_464 rfl ?_
    refine e_iaf (M := mL_law) (w := Lw) (f := xs) (j := (7 * N) + (3)) dL_law_465 (x_kk rfl) rfl (ix_add rfl kn_3) (by omega) (by omega) ?_
    refine f_aload_n (M := mL_law) 467 dL_law_466 rfl rfl ?_
    refine f_iload (M := mL_law) 469 dL_law_467 rfl rfl ?_
    refine f_iconst (M := mL_law) 470 dL_law_469 ki_4 rfl ?_
    refine f_iadd (M := mL_law) 471 dL_law_470 rfl ?_
    refine e_iaf (M := mL_law) (w := Lw) (f := xs) (j := (7 * N) + (4)) dL_law_471 (x_kk rfl) rfl (ix_add rfl kn_4) (by omega) (by omega) ?_
    refine f_aload_n (M := mL_law) 473 dL_law_472 rfl rfl ?_
    refine f_iload (M := mL_law) 475 dL_law_473 rfl rfl ?_
    refine f_iconst (M := mL_law) 476 dL_law_475 ki_5 rfl ?_
    refine f_iadd (M := mL_law) 477 dL_law_476 rfl ?_
    refine e_iaf (M := mL_law) (w := Lw) (f := xs) (j := (7 * N) + (5)) dL_law_477 (x_kk rfl) rfl (ix_add rfl kn_5) (by omega) (by omega) ?_
    refine f_aload_n (M := mL_law) 479 dL_law_478 rfl rfl ?_
    refine f_iload (M := mL_law) 481 dL_law_479 rfl rfl ?_
    refine f_bipush (M := mL_law) 483 dL_law_481 kb_6 rfl ?_
    refine f_iadd (M := mL_law) 484 dL_law_483 rfl ?_
    refine e_iaf (M := mL_law) (w := Lw) (f := xs) (j := (7 * N) + (6)) dL_law_484 (x_kk rfl) rfl (ix_add rfl kn_6) (by omega) (by omega) ?_
    refine f_aload_n (M := mL_law) 486 dL_law_485 rfl rfl ?_
    refine e_cS (M := mL_law) [_] (c + 2) (k + 12) dL_law_486 pa_10182 cc_10182 rfl rfl rfl rfl rfl (show c + 2 ≤ 601024 by omega) (show k + 12 ≤ 7293034 by omega) rfl (h1) rfl ?_
    refine f_istore (M := mL_law) (ls' := [_, _, _, _, _, _, _, _]) 491 dL_law_489 rfl rfl rfl ?_
    refine f_aload_n (M := mL_law) 492 dL_law_491 rfl rfl ?_
    refine f_aload_n (M := mL_law) 493 dL_law_492 rfl rfl ?_
    refine f_iload (M := mL_law) 495 dL_law_493 rfl rfl ?_
    refine f_iconst (M := mL_law) 496 dL_law_495 ki_1 rfl ?_
    refine f_iadd (M := mL_law) 497 dL_law_496 rfl ?_
    refine e_iaf (M := mL_law) (w := Lw) (f := xs) (j := (7 * N) + (1)) dL_law_497 (x_kk rfl) rfl (ix_add rfl kn_1) (by omega) (by omega) ?_
    refine f_aload_n (M := mL_law) 499 dL_law_498 rfl rfl ?_
    refine f_iload (M := mL_law) 501 dL_law_499 rfl rfl ?_
    refine f_iconst (M := mL_law) 502 dL_law_501 ki_2 rfl ?_
    refine f_iadd (M := mL_law) 503 dL_law_502 rfl ?_
    refine e_iaf (M := mL_law) (w := Lw) (f := xs) (j := (7 * N) + (2)) dL_law_503 (x_kk rfl) rfl (ix_add rfl kn_2) (by omega) (by omega) ?_
    refine f_aload_n (M := mL_law) 505 dL_law_504 rfl rfl ?_
    refine f_iload (M := mL_law) 507 dL_law_505 rfl rfl ?_
    refine f_iconst (M := mL_law) 508 dL_law_507 ki_3 rfl ?_
    refine f_iadd (M := mL_law) 509 dL_law_508 rfl ?_
    refine e_iaf (M := mL_law) (w := Lw) (f := xs) (j := (7 * N) + (3)) dL_law_509 (x_kk rfl) rfl (ix_add rfl kn_3) (by omega) (by omega) ?_
    refine f_aload_n (M := mL_law) 511 dL_law_510 rfl rfl ?_
    refine f_iload (M := mL_law) 513 dL_law_511 rfl rfl ?_
    refine f_iconst (M := mL_law) 514 dL_law_513 ki_4 rfl ?_
    refine f_iadd (M := mL_law) 515 dL_law_514 rfl ?_
    refine e_iaf (M := mL_law) (w := Lw) (f := xs) (j := (7 * N) + (4)) dL_law_515 (x_kk rfl) rfl (ix_add rfl kn_4) (by omega) (by omega) ?_
    refine f_aload_n (M := mL_law) 517 dL_law_516 rfl rfl ?_
    refine f_iload (M := mL_law) 519 dL_law_517 rfl rfl ?_
    refine f_iconst (M := mL_law) 520 dL_law_519 ki_5 rfl ?_
    refine f_iadd (M := mL_law) 521 dL_law_520 rfl ?_
    refine e_iaf (M := mL_law) (w := Lw) (f := xs) (j := (7 * N) + (5)) dL_law_521 (x_kk rfl) rfl (ix_add rfl kn_5) (by omega) (by omega) ?_
    refine f_aload_n (M := mL_law) 523 dL_law_522 rfl rfl ?_
    refine f_iload (M := mL_law) 525 dL_law_523 rfl rfl ?_
    refine f_bipush (M := mL_law) 527 dL_law_525 kb_6 rfl ?_
    refine f_iadd (M := mL_law) 528 dL_law_527 rfl ?_
    refine e_iaf (M := mL_law) (w := Lw) (f := xs) (j := (7 * N) + (6)) dL_law_528 (x_kk rfl) rfl (ix_add rfl kn_6) (by omega) (by omega) ?_
    refine e_cV (M := mL_law) [_] (c + 2) (k + 12) dL_law_529 pa_10185 pb_10185 cc_10185 rfl rfl rfl rfl rfl (show c + 2 ≤ 601024 by omega) (show k + 12 ≤ 7293034 by omega) rfl (h2) rfl ?_
    refine f_istore (M := mL_law) (ls' := [_, _, _, _, _, _, _, _]) 534 dL_law_532 rfl rfl rfl ?_
    refine f_aload_n (M := mL_law) 535 dL_law_534 rfl rfl ?_
    refine e_cV (M := mL_law) [_] (c + 2) (k + 12) dL_law_535 pa_10163 pb_10163 cc_10163 rfl rfl rfl rfl rfl (show c + 2 ≤ 601024 by omega) (show k + 12 ≤ 7293034 by omega) rfl (c_X9_thrown) rfl ?_
    refine f_iload (M := mL_law) 540 dL_law_538 rfl rfl ?_
    refine e_icmp_eqT (M := mL_law) 545 dL_law_540 rfl ht ?_
    refine f_iload (M := mL_law) 547 dL_law_545 rfl rfl ?_
    refine e_if_neT (M := mL_law) 562 dL_law_547 rfl z ?_
    refine f_goto (M := mL_law) 2888 dL_law_562 rfl ?_
    refine f_iinc (M := mL_law) (ls' := [_, _, _, _, _, _, _, _]) 2891 dL_law_2888 ki_7 rfl rfl rfl rfl ?_
    refine f_goto (M := mL_law) 23 dL_law_2891 rfl ?_
    rw [show Int32.ofNat (7 * N) + 7 = Int32.ofNat (7 * (N + 1)) from ix_add rfl kn_7]; exact hr
theorem lk_6 (hlen : 7 * N + 7 ≤ Lw) (hLw : Lw ≤ 3584) (T : y_T N I L R) (hN : N < 512) (hc : c ≤ 233 + 4 * N) (hk : k ≤ 14655 + 24 * N) (hx : xs (7 * N) &&& 63 = Int32.ofNat 6) : y_Nx Lw xs N I L R c k w5 w6 w7 := by
  have sm : y_OI N (Lw, xs) mL_removePlot [.ref 0, .int (xs (7 * N + 1)), .ref 232] mX9_removePlot [.ref 225, .int (xs (7 * N + 1))] I L R := sim_removePlot (X := (Lw, xs)) T
  obtain ⟨k0, I1, L1, R1, v, I2, L2, h1, h2, ht, hv, T2⟩ := sm
  by_cases z : k0 = 0
  · refine ⟨I2, L2, R1, some (.int k0), some (.int v), w7, c + 2, k + 12, T2, by omega, by omega, fun r hr => ?_⟩
    refine e_tsI (j := 6) (off := 525) 565 dL_law_40 rfl (by rw [hx]; decide) (by decide) rfl rfl ?_
    refine f_aload_n (M := mL_law) 566 dL_law_565 rfl rfl ?_
    refine f_aload_n (M := mL_law) 567 dL_law_566 rfl rfl ?_
    refine f_iload (M := mL_law) 569 dL_law_567 rfl rfl ?_
    refine f_iconst (M := mL_law) 570 dL_law_569 ki_1 rfl ?_
    refine f_iadd (M := mL_law) 571 dL_law_570 rfl ?_
    refine e_iaf (M := mL_law) (w := Lw) (f := xs) (j := (7 * N) + (1)) dL_law_571 (x_kk rfl) rfl (ix_add rfl kn_1) (by omega) (by omega) ?_
    refine f_aload_n (M := mL_law) 573 dL_law_572 rfl rfl ?_
    refine e_cS (M := mL_law) [_] (c + 2) (k + 12) dL_law_573 pa_10186 cc_10186 rfl rfl rfl rfl rfl (show c + 2 ≤ 601024 by omega) (show k + 12 ≤ 7293034 by omega) rfl (h1) rfl ?_
    refine f_istore (M := mL_law) (ls' := [_, _, _, _, _, _, _, _]) 578 dL_law_576 rfl rfl rfl ?_
    refine f_aload_n (M := mL_law) 579 dL_law_578 rfl rfl ?_
    refine f_aload_n (M := mL_law) 580 dL_law_579 rfl rfl ?_
    refine f_iload (M := mL_law) 582 dL_law_580 rfl rfl ?_
    refine f_iconst (M := mL_law) 583 dL_law_582 ki_1 rfl ?_
    refine f_iadd (M := mL_law) 584 dL_law_583 rfl ?_
    refine e_iaf (M := mL_law) (w := Lw) (f := xs) (j := (7 * N) + (1)) dL_law_584 (x_kk rfl) rfl (ix_add rfl kn_1) (by omega) (by omega) ?_
    refine e_cV (M := mL_law) [_] (c + 2) (k + 12) dL_law_585 pa_10188 pb_10188 cc_10188 rfl rfl rfl rfl rfl (show c + 2 ≤ 601024 by omega) (show k + 12 ≤ 7293034 by omega) rfl (h2) rfl ?_
    refine f_istore (M := mL_law) (ls' := [_, _, _, _, _, _, _, _]) 590 dL_law_588 rfl rfl rfl ?_
    refine f_aload_n (M := mL_law) 591 dL_law_590 rfl rfl ?_
    refine e_cV (M := mL_law) [_] (c + 2) (k + 12) dL_law_591 pa_10163 pb_10163 cc_10163 rfl rfl rfl rfl rfl (show c + 2 ≤ 601024 by omega) (show k + 12 ≤ 7293034 by omega) rfl (c_X9_thrown) rfl ?_
    refine f_iload (M := mL_law) 596 dL_law_594 rfl rfl ?_
    refine e_icmp_eqT (M := mL_law) 601 dL_law_596 rfl ht ?_
    refine f_iload (M := mL_law) 603 dL_law_601 rfl rfl ?_
    refine e_if_neF (M := mL_law) 618 dL_law_603 rfl (fun q => q z) ?_
    refine f_aload_n (M := mL_law) 607 dL_law_606 rfl rfl ?_
    refine f_iconst (M := mL_law) 608 dL_law_607 ki_0 rfl ?_
    refine e_lld (M := mL_law) (w := 1) (j := 0) dL_law_608 (x_kk rfl) rfl kn_0 (by omega) (by omega) ?_
    refine f_iload (M := mL_law) 611 dL_law_609 rfl rfl ?_
    refine f_i2l (M := mL_law) 612 dL_law_611 rfl ?_
    refine f_lcmp (M := mL_law) 613 dL_law_612 rfl ?_
    refine e_if_eqT (M := mL_law) 618 dL_law_613 rfl (lc_eq.mpr (hv z)) ?_
    refine f_goto (M := mL_law) 2888 dL_law_618 rfl ?_
    refine f_iinc (M := mL_law) (ls' := [_, _, _, _, _, _, _, _]) 2891 dL_law_2888 ki_7 rfl rfl rfl rfl ?_
    refine f_goto (M := mL_law) 23 dL_law_2891 rfl ?_
    rw [show Int32.ofNat (7 * N) + 7 = Int32.ofNat (7 * (N + 1)) from ix_add rfl kn_7]; exact hr
  · refine ⟨I2, L2, R1, some (.int k0), some (.int v), w7, c + 2, k + 12, T2, by omega, by omega, fun r hr => ?_⟩
    refine e_tsI (j := 6) (off := 525) 565 dL_law_40 rfl (by rw [hx]; decide) (by decide) rfl rfl ?_
    refine f_aload_n (M := mL_law) 566 dL_law_565 rfl rfl ?_
    refine f_aload_n (M := mL_law) 567 dL_law_566 rfl rfl ?_
    refine f_iload (M := mL_law) 569 dL_law_567 rfl rfl ?_
    refine f_iconst (M := mL_law) 570 dL_law_569 ki_1 rfl ?_
    refine f_iadd (M := mL_law) 571 dL_law_570 rfl ?_
    refine e_iaf (M := mL_law) (w := Lw) (f := xs) (j := (7 * N) + (1)) dL_law_571 (x_kk rfl) rfl (ix_add rfl kn_1) (by omega) (by omega) ?_
    refine f_aload_n (M := mL_law) 573 dL_law_572 rfl rfl ?_
    refine e_cS (M := mL_law) [_] (c + 2) (k + 12) dL_law_573 pa_10186 cc_10186 rfl rfl rfl rfl rfl (show c + 2 ≤ 601024 by omega) (show k + 12 ≤ 7293034 by omega) rfl (h1) rfl ?_
    refine f_istore (M := mL_law) (ls' := [_, _, _, _, _, _, _, _]) 578 dL_law_576 rfl rfl rfl ?_
    refine f_aload_n (M := mL_law) 579 dL_law_578 rfl rfl ?_
    refine f_aload_n (M := mL_law) 580 dL_law_579 rfl rfl ?_
    refine f_iload (M := mL_law) 582 dL_law_580 rfl rfl ?_
    refine f_iconst (M := mL_law) 583 dL_law_582 ki_1 rfl ?_
    refine f_iadd (M := mL_law) 584 dL_law_583 rfl ?_
    refine e_iaf (M := mL_law) (w := Lw) (f := xs) (j := (7 * N) + (1)) dL_law_584 (x_kk rfl) rfl (ix_add rfl kn_1) (by omega) (by omega) ?_
    refine e_cV (M := mL_law) [_] (c + 2) (k + 12) dL_law_585 pa_10188 pb_10188 cc_10188 rfl rfl rfl rfl rfl (show c + 2 ≤ 601024 by omega) (show k + 12 ≤ 7293034 by omega) rfl (h2) rfl ?_
    refine f_istore (M := mL_law) (ls' := [_, _, _, _, _, _, _, _]) 590 dL_law_588 rfl rfl rfl ?_
    refine f_aload_n (M := mL_law) 591 dL_law_590 rfl rfl ?_
    refine e_cV (M := mL_law) [_] (c + 2) (k + 12) dL_law_591 pa_10163 pb_10163 cc_10163 rfl rfl rfl rfl rfl (show c + 2 ≤ 601024 by omega) (show k + 12 ≤ 7293034 by omega) rfl (c_X9_thrown) rfl ?_
    refine f_iload (M := mL_law) 596 dL_law_594 rfl rfl ?_
    refine e_icmp_eqT (M := mL_law) 601 dL_law_596 rfl ht ?_
    refine f_iload (M := mL_law) 603 dL_law_601 rfl rfl ?_
    refine e_if_neT (M := mL_law) 618 dL_law_603 rfl z ?_
    refine f_goto (M := mL_law) 2888 dL_law_618 rfl ?_
    refine f_iinc (M := mL_law) (ls' := [_, _, _, _, _, _, _, _]) 2891 dL_law_2888 ki_7 rfl rfl rfl rfl ?_
    refine f_goto (M := mL_law) 23 dL_law_2891 rfl ?_
    rw [show Int32.ofNat (7 * N) + 7 = Int32.ofNat (7 * (N + 1)) from ix_add rfl kn_7]; exact hr
theorem lk_7 (hlen : 7 * N + 7 ≤ Lw) (hLw : Lw ≤ 3584) (T : y_T N I L R) (hN : N < 512) (hc : c ≤ 233 + 4 * N) (hk : k ≤ 14655 + 24 * N) (hx : xs (7 * N) &&& 63 = Int32.ofNat 7) : y_Nx Lw xs N I L R c k w5 w6 w7 := by
  by_cases hb : xs (7 * N + 2) = 0
  · skip
    have sm : y_OL N (Lw, xs) mL_estimate [.ref 0, .int (xs (7 * N + 1)), .int 0, .ref 232] mX9_estimate [.ref 225, .int (xs (7 * N + 1)), .int 0] I L R := sim_estimate (X := (Lw, xs)) T
    obtain ⟨k0, I1, L1, R1, v, I2, L2, h1, h2, ht, hv, T2⟩ := sm
    by_cases z : k0 = 0
    · refine ⟨I2, L2, R1, some (.int k0), some (.long v), none, c + 2, k + 12, T2, by omega, by omega, fun r hr => ?_⟩
      refine e_tsI (j := 7) (off := 581) 621 dL_law_40 rfl (by rw [hx]; decide) (by decide) rfl rfl ?_
      refine f_aload_n (M := mL_law) 622 dL_law_621 rfl rfl ?_
      refine f_aload_n (M := mL_law) 623 dL_law_622 rfl rfl ?_
      refine f_iload (M := mL_law) 625 dL_law_623 rfl rfl ?_
      refine f_iconst (M := mL_law) 626 dL_law_625 ki_1 rfl ?_
      refine f_iadd (M := mL_law) 627 dL_law_626 rfl ?_
      refine e_iaf (M := mL_law) (w := Lw) (f := xs) (j := (7 * N) + (1)) dL_law_627 (x_kk rfl) rfl (ix_add rfl kn_1) (by omega) (by omega) ?_
      refine f_aload_n (M := mL_law) 629 dL_law_628 rfl rfl ?_
      refine f_iload (M := mL_law) 631 dL_law_629 rfl rfl ?_
      refine f_iconst (M := mL_law) 632 dL_law_631 ki_2 rfl ?_
      refine f_iadd (M := mL_law) 633 dL_law_632 rfl ?_
      refine e_iaf (M := mL_law) (w := Lw) (f := xs) (j := (7 * N) + (2)) dL_law_633 (x_kk rfl) rfl (ix_add rfl kn_2) (by omega) (by omega) ?_
      refine e_if_eqT (M := mL_law) 641 dL_law_634 rfl hb ?_
      refine f_iconst (M := mL_law) 642 dL_law_641 ki_0 rfl ?_
      refine f_aload_n (M := mL_law) 643 dL_law_642 rfl rfl ?_
      refine e_cS (M := mL_law) [_] (c + 2) (k + 12) dL_law_643 pa_10189 cc_10189 rfl rfl rfl rfl rfl (show c + 2 ≤ 601024 by omega) (show k + 12 ≤ 7293034 by omega) rfl (h1) rfl ?_
      refine f_istore (M := mL_law) (ls' := [_, _, _, _, _, _, _, _]) 648 dL_law_646 rfl rfl rfl ?_
      refine f_aload_n (M := mL_law) 649 dL_law_648 rfl rfl ?_
      refine f_aload_n (M := mL_law) 650 dL_law_649 rfl rfl ?_
      refine f_iload (M := mL_law) 652 dL_law_650 rfl rfl ?_
      refine f_iconst (M := mL_law) 653 dL_law_652 ki_1 rfl ?_
      refine f_iadd (M := mL_law) 654 dL_law_653 rfl ?_
      refine e_iaf (M := mL_law) (w := Lw) (f := xs) (j := (7 * N) + (1)) dL_law_654 (x_kk rfl) rfl (ix_add rfl kn_1) (by omega) (by omega) ?_
      refine f_aload_n (M := mL_law) 656 dL_law_655 rfl rfl ?_
      refine f_iload (M := mL_law) 658 dL_law_656 rfl rfl ?_
      refine f_iconst (M := mL_law) 659 dL_law_658 ki_2 rfl ?_
      refine f_iadd (M := mL_law) 660 dL_law_659 rfl ?_
      refine e_iaf (M := mL_law) (w := Lw) (f := xs) (j := (7 * N) + (2)) dL_law_660 (x_kk rfl) rfl (ix_add rfl kn_2) (by omega) (by omega) ?_
      refine e_if_eqT (M := mL_law) 668 dL_law_661 rfl hb ?_
      refine f_iconst (M := mL_law) 669 dL_law_668 ki_0 rfl ?_
      refine e_cV (M := mL_law) [_] (c + 2) (k + 12) dL_law_669 pa_10192 pb_10192 cc_10192 rfl rfl rfl rfl rfl (show c + 2 ≤ 601024 by omega) (show k + 12 ≤ 7293034 by omega) rfl (h2) rfl ?_
      refine f_lstore (M := mL_law) (ls' := [_, _, _, _, _, _, _, _]) 674 dL_law_672 rfl rfl rfl ?_
      refine f_aload_n (M := mL_law) 675 dL_law_674 rfl rfl ?_
      refine e_cV (M := mL_law) [_] (c + 2) (k + 12) dL_law_675 pa_10163 pb_10163 cc_10163 rfl rfl rfl rfl rfl (show c + 2 ≤ 601024 by omega) (show k + 12 ≤ 7293034 by omega) rfl (c_X9_thrown) rfl ?_
      refine f_iload (M := mL_law) 680 dL_law_678 rfl rfl ?_
      refine e_icmp_eqT (M := mL_law) 685 dL_law_680 rfl ht ?_
      refine f_iload (M := mL_law) 687 dL_law_685 rfl rfl ?_
      refine e_if_neF (M := mL_law) 701 dL_law_687 rfl (fun q => q z) ?_
      refine f_aload_n (M := mL_law) 691 dL_law_690 rfl rfl ?_
      refine f_iconst (M := mL_law) 692 dL_law_691 ki_0 rfl ?_
      refine e_lld (M := mL_law) (w := 1) (j := 0) dL_law_692 (x_kk rfl) rfl kn_0 (by omega) (by omega) ?_
      refine f_lload (M := mL_law) 695 dL_law_693 rfl rfl ?_
      refine f_lcmp (M := mL_law) 696 dL_law_695 rfl ?_
      refine e_if_eqT (M := mL_law) 701 dL_law_696 rfl (lc_eq.mpr (hv z)) ?_
      refine f_goto (M := mL_law) 2888 dL_law_701 rfl ?_
      refine f_iinc (M := mL_law) (ls' := [_, _, _, _, _, _, _, _]) 2891 dL_law_2888 ki_7 rfl rfl rfl rfl ?_
      refine f_goto (M := mL_law) 23 dL_law_2891 rfl ?_
      rw [show Int32.ofNat (7 * N) + 7 = Int32.ofNat (7 * (N + 1)) from ix_add rfl kn_7]; exact hr
    · refine ⟨I2, L2, R1, some (.int k0), some (.long v), none, c + 2, k + 12, T2, by omega, by omega, fun r hr => ?_⟩
      refine e_tsI (j := 7) (off := 581) 621 dL_law_40 rfl (by rw [hx]; decide) (by decide) rfl rfl ?_
      refine f_aload_n (M := mL_law) 622 dL_law_621 rfl rfl ?_
      refine f_aload_n (M := mL_law) 623 dL_law_622 rfl rfl ?_
      refine f_iload (M := mL_law) 625 dL_law_623 rfl rfl ?_
      refine f_iconst (M := mL_law) 626 dL_law_625 ki_1 rfl ?_
      refine f_iadd (M := mL_law) 627 dL_law_626 rfl ?_
      refine e_iaf (M := mL_law) (w := Lw) (f := xs) (j := (7 * N) + (1)) dL_law_627 (x_kk rfl) rfl (ix_add rfl kn_1) (by omega) (by omega) ?_
      refine f_aload_n (M := mL_law) 629 dL_law_628 rfl rfl ?_
      refine f_iload (M := mL_law) 631 dL_law_629 rfl rfl ?_
      refine f_iconst (M := mL_law) 632 dL_law_631 ki_2 rfl ?_
      refine f_iadd (M := mL_law) 633 dL_law_632 rfl ?_
      refine e_iaf (M := mL_law) (w := Lw) (f := xs) (j := (7 * N) + (2)) dL_law_633 (x_kk rfl) rfl (ix_add rfl kn_2) (by omega) (by omega) ?_
      refine e_if_eqT (M := mL_law) 641 dL_law_634 rfl hb ?_
      refine f_iconst (M := mL_law) 642 dL_law_641 ki_0 rfl ?_
      refine f_aload_n (M := mL_law) 643 dL_law_642 rfl rfl ?_
      refine e_cS (M := mL_law) [_] (c + 2) (k + 12) dL_law_643 pa_10189 cc_10189 rfl rfl rfl rfl rfl (show c + 2 ≤ 601024 by omega) (show k + 12 ≤ 7293034 by omega) rfl (h1) rfl ?_
      refine f_istore (M := mL_law) (ls' := [_, _, _, _, _, _, _, _]) 648 dL_law_646 rfl rfl rfl ?_
      refine f_aload_n (M := mL_law) 649 dL_law_648 rfl rfl ?_
      refine f_aload_n (M := mL_law) 650 dL_law_649 rfl rfl ?_
      refine f_iload (M := mL_law) 652 dL_law_650 rfl rfl ?_
      refine f_iconst (M := mL_law) 653 dL_law_652 ki_1 rfl ?_
      refine f_iadd (M := mL_law) 654 dL_law_653 rfl ?_
      refine e_iaf (M := mL_law) (w := Lw) (f := xs) (j := (7 * N) + (1)) dL_law_654 (x_kk rfl) rfl (ix_add rfl kn_1) (by omega) (by omega) ?_
      refine f_aload_n (M := mL_law) 656 dL_law_655 rfl rfl ?_
      refine f_iload (M := mL_law) 658 dL_law_656 rfl rfl ?_
      refine f_iconst (M := mL_law) 659 dL_law_658 ki_2 rfl ?_
      refine f_iadd (M := mL_law) 660 dL_law_659 rfl ?_
      refine e_iaf (M := mL_law) (w := Lw) (f := xs) (j := (7 * N) + (2)) dL_law_660 (x_kk rfl) rfl (ix_add rfl kn_2) (by omega) (by omega) ?_
      refine e_if_eqT (M := mL_law) 668 dL_law_661 rfl hb ?_
      refine f_iconst (M := mL_law) 669 dL_law_668 ki_0 rfl ?_
      refine e_cV (M := mL_law) [_] (c + 2) (k + 12) dL_law_669 pa_10192 pb_10192 cc_10192 rfl rfl rfl rfl rfl (show c + 2 ≤ 601024 by omega) (show k + 12 ≤ 7293034 by omega) rfl (h2) rfl ?_
      refine f_lstore (M := mL_law) (ls' := [_, _, _, _, _, _, _, _]) 674 dL_law_672 rfl rfl rfl ?_
      refine f_aload_n (M := mL_law) 675 dL_law_674 rfl rfl ?_
      refine e_cV (M := mL_law) [_] (c + 2) (k + 12) dL_law_675 pa_10163 pb_10163 cc_10163 rfl rfl rfl rfl rfl (show c + 2 ≤ 601024 by omega) (show k + 12 ≤ 7293034 by omega) rfl (c_X9_thrown) rfl ?_
      refine f_iload (M := mL_law) 680 dL_law_678 rfl rfl ?_
      refine e_icmp_eqT (M := mL_law) 685 dL_law_680 rfl ht ?_
      refine f_iload (M := mL_law) 687 dL_law_685 rfl rfl ?_
      refine e_if_neT (M := mL_law) 701 dL_law_687 rfl z ?_
      refine f_goto (M := mL_law) 2888 dL_law_701 rfl ?_
      refine f_iinc (M := mL_law) (ls' := [_, _, _, _, _, _, _, _]) 2891 dL_law_2888 ki_7 rfl rfl rfl rfl ?_
      refine f_goto (M := mL_law) 23 dL_law_2891 rfl ?_
      rw [show Int32.ofNat (7 * N) + 7 = Int32.ofNat (7 * (N + 1)) from ix_add rfl kn_7]; exact hr
  · skip
    have sm : y_OL N (Lw, xs) mL_estimate [.ref 0, .int (xs (7 * N + 1)), .int 1, .ref 232] mX9_estimate [.ref 225, .int (xs (7 * N + 1)), .int 1] I L R := sim_estimate (X := (Lw, xs)) T
    obtain ⟨k0, I1, L1, R1, v, I2, L2, h1, h2, ht, hv, T2⟩ := sm
    by_cases z : k0 = 0
    · refine ⟨I2, L2, R1, some (.int k0), some (.long v), none, c + 2, k + 12, T2, by omega, by omega, fun r hr => ?_⟩
      refine e_tsI (j := 7) (off := 581) 621 dL_law_40 rfl (by rw [hx]; decide) (by decide) rfl rfl ?_
      refine f_aload_n (M := mL_law) 622 dL_law_621 rfl rfl ?_
      refine f_aload_n (M := mL_law) 623 dL_law_622 rfl rfl ?_
      refine f_iload (M := mL_law) 625 dL_law_623 rfl rfl ?_
      refine f_iconst (M := mL_law) 626 dL_law_625 ki_1 rfl ?_
      refine f_iadd (M := mL_law) 627 dL_law_626 rfl ?_
      refine e_iaf (M := mL_law) (w := Lw) (f := xs) (j := (7 * N) + (1)) dL_law_627 (x_kk rfl) rfl (ix_add rfl kn_1) (by omega) (by omega) ?_
      refine f_aload_n (M := mL_law) 629 dL_law_628 rfl rfl ?_
      refine f_iload (M := mL_law) 631 dL_law_629 rfl rfl ?_
      refine f_iconst (M := mL_law) 632 dL_law_631 ki_2 rfl ?_
      refine f_iadd (M := mL_law) 633 dL_law_632 rfl ?_
      refine e_iaf (M := mL_law) (w := Lw) (f := xs) (j := (7 * N) + (2)) dL_law_633 (x_kk rfl) rfl (ix_add rfl kn_2) (by omega) (by omega) ?_
      refine e_if_eqF (M := mL_law) 641 dL_law_634 rfl hb ?_
      refine f_iconst (M := mL_law) 638 dL_law_637 ki_1 rfl ?_
      refine f_goto (M := mL_law) 642 dL_law_638 rfl ?_
      refine f_aload_n (M := mL_law) 643 dL_law_642 rfl rfl ?_
      refine e_cS (M := mL_law) [_] (c + 2) (k + 12) dL_law_643 pa_10189 cc_10189 rfl rfl rfl rfl rfl (show c + 2 ≤ 601024 by omega) (show k + 12 ≤ 7293034 by omega) rfl (h1) rfl ?_
      refine f_istore (M := mL_law) (ls' := [_, _, _, _, _, _, _, _]) 648 dL_law_646 rfl rfl rfl ?_
      refine f_aload_n (M := mL_law) 649 dL_law_648 rfl rfl ?_
      refine f_aload_n (M := mL_law) 650 dL_law_649 rfl rfl ?_
      refine f_iload (M := mL_law) 652 dL_law_650 rfl rfl ?_
      refine f_iconst (M := mL_law) 653 dL_law_652 ki_1 rfl ?_
      refine f_iadd (M := mL_law) 654 dL_law_653 rfl ?_
      refine e_iaf (M := mL_law) (w := Lw) (f := xs) (j := (7 * N) + (1)) dL_law_654 (x_kk rfl) rfl (ix_add rfl kn_1) (by omega) (by omega) ?_
      refine f_aload_n (M := mL_law) 656 dL_law_655 rfl rfl ?_
      refine f_iload (M := mL_law) 658 dL_law_656 rfl rfl ?_
      refine f_iconst (M := mL_law) 659 dL_law_658 ki_2 rfl ?_
      refine f_iadd (M := mL_law) 660 dL_law_659 rfl ?_
      refine e_iaf (M := mL_law) (w := Lw) (f := xs) (j := (7 * N) + (2)) dL_law_660 (x_kk rfl) rfl (ix_add rfl kn_2) (by omega) (by omega) ?_
      refine e_if_eqF (M := mL_law) 668 dL_law_661 rfl hb ?_
      refine f_iconst (M := mL_law) 665 dL_law_664 ki_1 rfl ?_
      refine f_goto (M := mL_law) 669 dL_law_665 rfl ?_
      refine e_cV (M := mL_law) [_] (c + 2) (k + 12) dL_law_669 pa_10192 pb_10192 cc_10192 rfl rfl rfl rfl rfl (show c + 2 ≤ 601024 by omega) (show k + 12 ≤ 7293034 by omega) rfl (h2) rfl ?_
      refine f_lstore (M := mL_law) (ls' := [_, _, _, _, _, _, _, _]) 674 dL_law_672 rfl rfl rfl ?_
      refine f_aload_n (M := mL_law) 675 dL_law_674 rfl rfl ?_
      refine e_cV (M := mL_law) [_] (c + 2) (k + 12) dL_law_675 pa_10163 pb_10163 cc_10163 rfl rfl rfl rfl rfl (show c + 2 ≤ 601024 by omega) (show k + 12 ≤ 7293034 by omega) rfl (c_X9_thrown) rfl ?_
      refine f_iload (M := mL_law) 680 dL_law_678 rfl rfl ?_
      refine e_icmp_eqT (M := mL_law) 685 dL_law_680 rfl ht ?_
      refine f_iload (M := mL_law) 687 dL_law_685 rfl rfl ?_
      refine e_if_neF (M := mL_law) 701 dL_law_687 rfl (fun q => q z) ?_
      refine f_aload_n (M := mL_law) 691 dL_law_690 rfl rfl ?_
      refine f_iconst (M := mL_law) 692 dL_law_691 ki_0 rfl ?_
      refine e_lld (M := mL_law) (w := 1) (j := 0) dL_law_692 (x_kk rfl) rfl kn_0 (by omega) (by omega) ?_
      refine f_lload (M := mL_law) 695 dL_law_693 rfl rfl ?_
      refine f_lcmp (M := mL_law) 696 dL_law_695 rfl ?_
      refine e_if_eqT (M := mL_law) 701 dL_law_696 rfl (lc_eq.mpr (hv z)) ?_
      refine f_goto (M := mL_law) 2888 dL_law_701 rfl ?_
      refine f_iinc (M := mL_law) (ls' := [_, _, _, _, _, _, _, _]) 2891 dL_law_2888 ki_7 rfl rfl rfl rfl ?_
      refine f_goto (M := mL_law) 23 dL_law_2891 rfl ?_
      rw [show Int32.ofNat (7 * N) + 7 = Int32.ofNat (7 * (N + 1)) from ix_add rfl kn_7]; exact hr
    · refine ⟨I2, L2, R1, some (.int k0), some (.long v), none, c + 2, k + 12, T2, by omega, by omega, fun r hr => ?_⟩
      refine e_tsI (j := 7) (off := 581) 621 dL_law_40 rfl (by rw [hx]; decide) (by decide) rfl rfl ?_
      refine f_aload_n (M := mL_law) 622 dL_law_621 rfl rfl ?_
      refine f_aload_n (M := mL_law) 623 dL_law_622 rfl rfl ?_
      refine f_iload (M := mL_law) 625 dL_law_623 rfl rfl ?_
      refine f_iconst (M := mL_law) 626 dL_law_625 ki_1 rfl ?_
      refine f_iadd (M := mL_law) 627 dL_law_626 rfl ?_
      refine e_iaf (M := mL_law) (w := Lw) (f := xs) (j := (7 * N) + (1)) dL_law_627 (x_kk rfl) rfl (ix_add rfl kn_1) (by omega) (by omega) ?_
      refine f_aload_n (M := mL_law) 629 dL_law_628 rfl rfl ?_
      refine f_iload (M := mL_law) 631 dL_law_629 rfl rfl ?_
      refine f_iconst (M := mL_law) 632 dL_law_631 ki_2 rfl ?_
      refine f_iadd (M := mL_law) 633 dL_law_632 rfl ?_
      refine e_iaf (M := mL_law) (w := Lw) (f := xs) (j := (7 * N) + (2)) dL_law_633 (x_kk rfl) rfl (ix_add rfl kn_2) (by omega) (by omega) ?_
      refine e_if_eqF (M := mL_law) 641 dL_law_634 rfl hb ?_
      refine f_iconst (M := mL_law) 638 dL_law_637 ki_1 rfl ?_
      refine f_goto (M := mL_law) 642 dL_law_638 rfl ?_
      refine f_aload_n (M := mL_law) 643 dL_law_642 rfl rfl ?_
      refine e_cS (M := mL_law) [_] (c + 2) (k + 12) dL_law_643 pa_10189 cc_10189 rfl rfl rfl rfl rfl (show c + 2 ≤ 601024 by omega) (show k + 12 ≤ 7293034 by omega) rfl (h1) rfl ?_
      refine f_istore (M := mL_law) (ls' := [_, _, _, _, _, _, _, _]) 648 dL_law_646 rfl rfl rfl ?_
      refine f_aload_n (M := mL_law) 649 dL_law_648 rfl rfl ?_
      refine f_aload_n (M := mL_law) 650 dL_law_649 rfl rfl ?_
      refine f_iload (M := mL_law) 652 dL_law_650 rfl rfl ?_
      refine f_iconst (M := mL_law) 653 dL_law_652 ki_1 rfl ?_
      refine f_iadd (M := mL_law) 654 dL_law_653 rfl ?_
      refine e_iaf (M := mL_law) (w := Lw) (f := xs) (j := (7 * N) + (1)) dL_law_654 (x_kk rfl) rfl (ix_add rfl kn_1) (by omega) (by omega) ?_
      refine f_aload_n (M := mL_law) 656 dL_law_655 rfl rfl ?_
      refine f_iload (M := mL_law) 658 dL_law_656 rfl rfl ?_
      refine f_iconst (M := mL_law) 659 dL_law_658 ki_2 rfl ?_
      refine f_iadd (M := mL_law) 660 dL_law_659 rfl ?_
      refine e_iaf (M := mL_law) (w := Lw) (f := xs) (j := (7 * N) + (2)) dL_law_660 (x_kk rfl) rfl (ix_add rfl kn_2) (by omega) (by omega) ?_
      refine e_if_eqF (M := mL_law) 668 dL_law_661 rfl hb ?_
      refine f_iconst (M := mL_law) 665 dL_law_664 ki_1 rfl ?_
      refine f_goto (M := mL_law) 669 dL_law_665 rfl ?_
      refine e_cV (M := mL_law) [_] (c + 2) (k + 12) dL_law_669 pa_10192 pb_10192 cc_10192 rfl rfl rfl rfl rfl (show c + 2 ≤ 601024 by omega) (show k + 12 ≤ 7293034 by omega) rfl (h2) rfl ?_
      refine f_lstore (M := mL_law) (ls' := [_, _, _, _, _, _, _, _]) 674 dL_law_672 rfl rfl rfl ?_
      refine f_aload_n (M := mL_law) 675 dL_law_674 rfl rfl ?_
      refine e_cV (M := mL_law) [_] (c + 2) (k + 12) dL_law_675 pa_10163 pb_10163 cc_10163 rfl rfl rfl rfl rfl (show c + 2 ≤ 601024 by omega) (show k + 12 ≤ 7293034 by omega) rfl (c_X9_thrown) rfl ?_
      refine f_iload (M := mL_law) 680 dL_law_678 rfl rfl ?_
      refine e_icmp_eqT (M := mL_law) 685 dL_law_680 rfl ht ?_
      refine f_iload (M := mL_law) 687 dL_law_685 rfl rfl ?_
      refine e_if_neT (M := mL_law) 701 dL_law_687 rfl z ?_
      refine f_goto (M := mL_law) 2888 dL_law_701 rfl ?_
      refine f_iinc (M := mL_law) (ls' := [_, _, _, _, _, _, _, _]) 2891 dL_law_2888 ki_7 rfl rfl rfl rfl ?_
      refine f_goto (M := mL_law) 23 dL_law_2891 rfl ?_
      rw [show Int32.ofNat (7 * N) + 7 = Int32.ofNat (7 * (N + 1)) from ix_add rfl kn_7]; exact hr
theorem lk_8 (hlen : 7 * N + 7 ≤ Lw) (hLw : Lw ≤ 3584) (T : y_T N I L R) (hN : N < 512) (hc : c ≤ 233 + 4 * N) (hk : k ≤ 14655 + 24 * N) (hx : xs (7 * N) &&& 63 = Int32.ofNat 8) : y_Nx Lw xs N I L R c k w5 w6 w7 := by
  by_cases hb : xs (7 * N + 2) = 0
  · skip
    have sm : y_OL N (Lw, xs) mL_squaredError [.ref 0, .int (xs (7 * N + 1)), .int 0, .ref 232] mX9_squaredError [.ref 225, .int (xs (7 * N + 1)), .int 0] I L R := sim_squaredError (X := (Lw, xs)) T
    obtain ⟨k0, I1, L1, R1, v, I2, L2, h1, h2, ht, hv, T2⟩ := sm
    by_cases z : k0 = 0
    · refine ⟨I2, L2, R1, some (.int k0), some (.long v), none, c + 2, k + 12, T2, by omega, by omega, fun r hr => ?_⟩
      refine e_tsI (j := 8) (off := 664) 704 dL_law_40 rfl (by rw [hx]; decide) (by decide) rfl rfl ?_
      refine f_aload_n (M := mL_law) 705 dL_law_704 rfl rfl ?_
      refine f_aload_n (M := mL_law) 706 dL_law_705 rfl rfl ?_
      refine f_iload (M := mL_law) 708 dL_law_706 rfl rfl ?_
      refine f_iconst (M := mL_law) 709 dL_law_708 ki_1 rfl ?_
      refine f_iadd (M := mL_law) 710 dL_law_709 rfl ?_
      refine e_iaf (M := mL_law) (w := Lw) (f := xs) (j := (7 * N) + (1)) dL_law_710 (x_kk rfl) rfl (ix_add rfl kn_1) (by omega) (by omega) ?_
      refine f_aload_n (M := mL_law) 712 dL_law_711 rfl rfl ?_
      refine f_iload (M := mL_law) 714 dL_law_712 rfl rfl ?_
      refine f_iconst (M := mL_law) 715 dL_law_714 ki_2 rfl ?_
      refine f_iadd (M := mL_law) 716 dL_law_715 rfl ?_
      refine e_iaf (M := mL_law) (w := Lw) (f := xs) (j := (7 * N) + (2)) dL_law_716 (x_kk rfl) rfl (ix_add rfl kn_2) (by omega) (by omega) ?_
      refine e_if_eqT (M := mL_law) 724 dL_law_717 rfl hb ?_
      refine f_iconst (M := mL_law) 725 dL_law_724 ki_0 rfl ?_
      refine f_aload_n (M := mL_law) 726 dL_law_725 rfl rfl ?_
      refine e_cS (M := mL_law) [_] (c + 2) (k + 12) dL_law_726 pa_10193 cc_10193 rfl rfl rfl rfl rfl (show c + 2 ≤ 601024 by omega) (show k + 12 ≤ 7293034 by omega) rfl (h1) rfl ?_
      refine f_istore (M := mL_law) (ls' := [_, _, _, _, _, _, _, _]) 731 dL_law_729 rfl rfl rfl ?_
      refine f_aload_n (M := mL_law) 732 dL_law_731 rfl rfl ?_
      refine f_aload_n (M := mL_law) 733 dL_law_732 rfl rfl ?_
      refine f_iload (M := mL_law) 735 dL_law_733 rfl rfl ?_
      refine f_iconst (M := mL_law) 736 dL_law_735 ki_1 rfl ?_
      refine f_iadd (M := mL_law) 737 dL_law_736 rfl ?_
      refine e_iaf (M := mL_law) (w := Lw) (f := xs) (j := (7 * N) + (1)) dL_law_737 (x_kk rfl) rfl (ix_add rfl kn_1) (by omega) (by omega) ?_
      refine f_aload_n (M := mL_law) 739 dL_law_738 rfl rfl ?_
      refine f_iload (M := mL_law) 741 dL_law_739 rfl rfl ?_
      refine f_iconst (M := mL_law) 742 dL_law_741 ki_2 rfl ?_
      refine f_iadd (M := mL_law) 743 dL_law_742 rfl ?_
      refine e_iaf (M := mL_law) (w := Lw) (f := xs) (j := (7 * N) + (2)) dL_law_743 (x_kk rfl) rfl (ix_add rfl kn_2) (by omega) (by omega) ?_
      refine e_if_eqT (M := mL_law) 751 dL_law_744 rfl hb ?_
      refine f_iconst (M := mL_law) 752 dL_law_751 ki_0 rfl ?_
      refine e_cV (M := mL_law) [_] (c + 2) (k + 12) dL_law_752 pa_10195 pb_10195 cc_10195 rfl rfl rfl rfl rfl (show c + 2 ≤ 601024 by omega) (show k + 12 ≤ 7293034 by omega) rfl (h2) rfl ?_
      refine f_lstore (M := mL_law) (ls' := [_, _, _, _, _, _, _, _]) 757 dL_law_755 rfl rfl rfl ?_
      refine f_aload_n (M := mL_law) 758 dL_law_757 rfl rfl ?_
      refine e_cV (M := mL_law) [_] (c + 2) (k + 12) dL_law_758 pa_10163 pb_10163 cc_10163 rfl rfl rfl rfl rfl (show c + 2 ≤ 601024 by omega) (show k + 12 ≤ 7293034 by omega) rfl (c_X9_thrown) rfl ?_
      refine f_iload (M := mL_law) 763 dL_law_761 rfl rfl ?_
      refine e_icmp_eqT (M := mL_law) 768 dL_law_763 rfl ht ?_
      refine f_iload (M := mL_law) 770 dL_law_768 rfl rfl ?_
      refine e_if_neF (M := mL_law) 784 dL_law_770 rfl (fun q => q z) ?_
      refine f_aload_n (M := mL_law) 774 dL_law_773 rfl rfl ?_
      refine f_iconst (M := mL_law) 775 dL_law_774 ki_0 rfl ?_
      refine e_lld (M := mL_law) (w := 1) (j := 0) dL_law_775 (x_kk rfl) rfl kn_0 (by omega) (by omega) ?_
      refine f_lload (M := mL_law) 778 dL_law_776 rfl rfl ?_
      refine f_lcmp (M := mL_law) 779 dL_law_778 rfl ?_
      refine e_if_eqT (M := mL_law) 784 dL_law_779 rfl (lc_eq.mpr (hv z)) ?_
      refine f_goto (M := mL_law) 2888 dL_law_784 rfl ?_
      refine f_iinc (M := mL_law) (ls' := [_, _, _, _, _, _, _, _]) 2891 dL_law_2888 ki_7 rfl rfl rfl rfl ?_
      refine f_goto (M := mL_law) 23 dL_law_2891 rfl ?_
      rw [show Int32.ofNat (7 * N) + 7 = Int32.ofNat (7 * (N + 1)) from ix_add rfl kn_7]; exact hr
    · refine ⟨I2, L2, R1, some (.int k0), some (.long v), none, c + 2, k + 12, T2, by omega, by omega, fun r hr => ?_⟩
      refine e_tsI (j := 8) (off := 664) 704 dL_law_40 rfl (by rw [hx]; decide) (by decide) rfl rfl ?_
      refine f_aload_n (M := mL_law) 705 dL_law_704 rfl rfl ?_
      refine f_aload_n (M := mL_law) 706 dL_law_705 rfl rfl ?_
      refine f_iload (M := mL_law) 708 dL_law_706 rfl rfl ?_
      refine f_iconst (M := mL_law) 709 dL_law_708 ki_1 rfl ?_
      refine f_iadd (M := mL_law) 710 dL_law_709 rfl ?_
      refine e_iaf (M := mL_law) (w := Lw) (f := xs) (j := (7 * N) + (1)) dL_law_710 (x_kk rfl) rfl (ix_add rfl kn_1) (by omega) (by omega) ?_
      refine f_aload_n (M := mL_law) 712 dL_law_711 rfl rfl ?_
      refine f_iload (M := mL_law) 714 dL_law_712 rfl rfl ?_
      refine f_iconst (M := mL_law) 715 dL_law_714 ki_2 rfl ?_
      refine f_iadd (M := mL_law) 716 dL_law_715 rfl ?_
      refine e_iaf (M := mL_law) (w := Lw) (f := xs) (j := (7 * N) + (2)) dL_law_716 (x_kk rfl) rfl (ix_add rfl kn_2) (by omega) (by omega) ?_
      refine e_if_eqT (M := mL_law) 724 dL_law_717 rfl hb ?_
      refine f_iconst (M := mL_law) 725 dL_law_724 ki_0 rfl ?_
      refine f_aload_n (M := mL_law) 726 dL_law_725 rfl rfl ?_
      refine e_cS (M := mL_law) [_] (c + 2) (k + 12) dL_law_726 pa_10193 cc_10193 rfl rfl rfl rfl rfl (show c + 2 ≤ 601024 by omega) (show k + 12 ≤ 7293034 by omega) rfl (h1) rfl ?_
      refine f_istore (M := mL_law) (ls' := [_, _, _, _, _, _, _, _]) 731 dL_law_729 rfl rfl rfl ?_
      refine f_aload_n (M := mL_law) 732 dL_law_731 rfl rfl ?_
      refine f_aload_n (M := mL_law) 733 dL_law_732 rfl rfl ?_
      refine f_iload (M := mL_law) 735 dL_law_733 rfl rfl ?_
      refine f_iconst (M := mL_law) 736 dL_law_735 ki_1 rfl ?_
      refine f_iadd (M := mL_law) 737 dL_law_736 rfl ?_
      refine e_iaf (M := mL_law) (w := Lw) (f := xs) (j := (7 * N) + (1)) dL_law_737 (x_kk rfl) rfl (ix_add rfl kn_1) (by omega) (by omega) ?_
      refine f_aload_n (M := mL_law) 739 dL_law_738 rfl rfl ?_
      refine f_iload (M := mL_law) 741 dL_law_739 rfl rfl ?_
      refine f_iconst (M := mL_law) 742 dL_law_741 ki_2 rfl ?_
      refine f_iadd (M := mL_law) 743 dL_law_742 rfl ?_
      refine e_iaf (M := mL_law) (w := Lw) (f := xs) (j := (7 * N) + (2)) dL_law_743 (x_kk rfl) rfl (ix_add rfl kn_2) (by omega) (by omega) ?_
      refine e_if_eqT (M := mL_law) 751 dL_law_744 rfl hb ?_
      refine f_iconst (M := mL_law) 752 dL_law_751 ki_0 rfl ?_
      refine e_cV (M := mL_law) [_] (c + 2) (k + 12) dL_law_752 pa_10195 pb_10195 cc_10195 rfl rfl rfl rfl rfl (show c + 2 ≤ 601024 by omega) (show k + 12 ≤ 7293034 by omega) rfl (h2) rfl ?_
      refine f_lstore (M := mL_law) (ls' := [_, _, _, _, _, _, _, _]) 757 dL_law_755 rfl rfl rfl ?_
      refine f_aload_n (M := mL_law) 758 dL_law_757 rfl rfl ?_
      refine e_cV (M := mL_law) [_] (c + 2) (k + 12) dL_law_758 pa_10163 pb_10163 cc_10163 rfl rfl rfl rfl rfl (show c + 2 ≤ 601024 by omega) (show k + 12 ≤ 7293034 by omega) rfl (c_X9_thrown) rfl ?_
      refine f_iload (M := mL_law) 763 dL_law_761 rfl rfl ?_
      refine e_icmp_eqT (M := mL_law) 768 dL_law_763 rfl ht ?_
      refine f_iload (M := mL_law) 770 dL_law_768 rfl rfl ?_
      refine e_if_neT (M := mL_law) 784 dL_law_770 rfl z ?_
      refine f_goto (M := mL_law) 2888 dL_law_784 rfl ?_
      refine f_iinc (M := mL_law) (ls' := [_, _, _, _, _, _, _, _]) 2891 dL_law_2888 ki_7 rfl rfl rfl rfl ?_
      refine f_goto (M := mL_law) 23 dL_law_2891 rfl ?_
      rw [show Int32.ofNat (7 * N) + 7 = Int32.ofNat (7 * (N + 1)) from ix_add rfl kn_7]; exact hr
  · skip
    have sm : y_OL N (Lw, xs) mL_squaredError [.ref 0, .int (xs (7 * N + 1)), .int 1, .ref 232] mX9_squaredError [.ref 225, .int (xs (7 * N + 1)), .int 1] I L R := sim_squaredError (X := (Lw, xs)) T
    obtain ⟨k0, I1, L1, R1, v, I2, L2, h1, h2, ht, hv, T2⟩ := sm
    by_cases z : k0 = 0
    · refine ⟨I2, L2, R1, some (.int k0), some (.long v), none, c + 2, k + 12, T2, by omega, by omega, fun r hr => ?_⟩
      refine e_tsI (j := 8) (off := 664) 704 dL_law_40 rfl (by rw [hx]; decide) (by decide) rfl rfl ?_
      refine f_aload_n (M := mL_law) 705 dL_law_704 rfl rfl ?_
      refine f_aload_n (M := mL_law) 706 dL_law_705 rfl rfl ?_
      refine f_iload (M := mL_law) 708 dL_law_706 rfl rfl ?_
      refine f_iconst (M := mL_law) 709 dL_law_708 ki_1 rfl ?_
      refine f_iadd (M := mL_law) 710 dL_law_709 rfl ?_
      refine e_iaf (M := mL_law) (w := Lw) (f := xs) (j := (7 * N) + (1)) dL_law_710 (x_kk rfl) rfl (ix_add rfl kn_1) (by omega) (by omega) ?_
      refine f_aload_n (M := mL_law) 712 dL_law_711 rfl rfl ?_
      refine f_iload (M := mL_law) 714 dL_law_712 rfl rfl ?_
      refine f_iconst (M := mL_law) 715 dL_law_714 ki_2 rfl ?_
      refine f_iadd (M := mL_law) 716 dL_law_715 rfl ?_
      refine e_iaf (M := mL_law) (w := Lw) (f := xs) (j := (7 * N) + (2)) dL_law_716 (x_kk rfl) rfl (ix_add rfl kn_2) (by omega) (by omega) ?_
      refine e_if_eqF (M := mL_law) 724 dL_law_717 rfl hb ?_
      refine f_iconst (M := mL_law) 721 dL_law_720 ki_1 rfl ?_
      refine f_goto (M := mL_law) 725 dL_law_721 rfl ?_
      refine f_aload_n (M := mL_law) 726 dL_law_725 rfl rfl ?_
      refine e_cS (M := mL_law) [_] (c + 2) (k + 12) dL_law_726 pa_10193 cc_10193 rfl rfl rfl rfl rfl (show c + 2 ≤ 601024 by omega) (show k + 12 ≤ 7293034 by omega) rfl (h1) rfl ?_
      refine f_istore (M := mL_law) (ls' := [_, _, _, _, _, _, _, _]) 731 dL_law_729 rfl rfl rfl ?_
      refine f_aload_n (M := mL_law) 732 dL_law_731 rfl rfl ?_
      refine f_aload_n (M := mL_law) 733 dL_law_732 rfl rfl ?_
      refine f_iload (M := mL_law) 735 dL_law_733 rfl rfl ?_
      refine f_iconst (M := mL_law) 736 dL_law_735 ki_1 rfl ?_
      refine f_iadd (M := mL_law) 737 dL_law_736 rfl ?_
      refine e_iaf (M := mL_law) (w := Lw) (f := xs) (j := (7 * N) + (1)) dL_law_737 (x_kk rfl) rfl (ix_add rfl kn_1) (by omega) (by omega) ?_
      refine f_aload_n (M := mL_law) 739 dL_law_738 rfl rfl ?_
      refine f_iload (M := mL_law) 741 dL_law_739 rfl rfl ?_
      refine f_iconst (M := mL_law) 742 dL_law_741 ki_2 rfl ?_
      refine f_iadd (M := mL_law) 743 dL_law_742 rfl ?_
      refine e_iaf (M := mL_law) (w := Lw) (f := xs) (j := (7 * N) + (2)) dL_law_743 (x_kk rfl) rfl (ix_add rfl kn_2) (by omega) (by omega) ?_
      refine e_if_eqF (M := mL_law) 751 dL_law_744 rfl hb ?_
      refine f_iconst (M := mL_law) 748 dL_law_747 ki_1 rfl ?_
      refine f_goto (M := mL_law) 752 dL_law_748 rfl ?_
      refine e_cV (M := mL_law) [_] (c + 2) (k + 12) dL_law_752 pa_10195 pb_10195 cc_10195 rfl rfl rfl rfl rfl (show c + 2 ≤ 601024 by omega) (show k + 12 ≤ 7293034 by omega) rfl (h2) rfl ?_
      refine f_lstore (M := mL_law) (ls' := [_, _, _, _, _, _, _, _]) 757 dL_law_755 rfl rfl rfl ?_
      refine f_aload_n (M := mL_law) 758 dL_law_757 rfl rfl ?_
      refine e_cV (M := mL_law) [_] (c + 2) (k + 12) dL_law_758 pa_10163 pb_10163 cc_10163 rfl rfl rfl rfl rfl (show c + 2 ≤ 601024 by omega) (show k + 12 ≤ 7293034 by omega) rfl (c_X9_thrown) rfl ?_
      refine f_iload (M := mL_law) 763 dL_law_761 rfl rfl ?_
      refine e_icmp_eqT (M := mL_law) 768 dL_law_763 rfl ht ?_
      refine f_iload (M := mL_law) 770 dL_law_768 rfl rfl ?_
      refine e_if_neF (M := mL_law) 784 dL_law_770 rfl (fun q => q z) ?_
      refine f_aload_n (M := mL_law) 774 dL_law_773 rfl rfl ?_
      refine f_iconst (M := mL_law) 775 dL_law_774 ki_0 rfl ?_
      refine e_lld (M := mL_law) (w := 1) (j := 0) dL_law_775 (x_kk rfl) rfl kn_0 (by omega) (by omega) ?_
      refine f_lload (M := mL_law) 778 dL_law_776 rfl rfl ?_
      refine f_lcmp (M := mL_law) 779 dL_law_778 rfl ?_
      refine e_if_eqT (M := mL_law) 784 dL_law_779 rfl (lc_eq.mpr (hv z)) ?_
      refine f_goto (M := mL_law) 2888 dL_law_784 rfl ?_
      refine f_iinc (M := mL_law) (ls' := [_, _, _, _, _, _, _, _]) 2891 dL_law_2888 ki_7 rfl rfl rfl rfl ?_
      refine f_goto (M := mL_law) 23 dL_law_2891 rfl ?_
      rw [show Int32.ofNat (7 * N) + 7 = Int32.ofNat (7 * (N + 1)) from ix_add rfl kn_7]; exact hr
    · refine ⟨I2, L2, R1, some (.int k0), some (.long v), none, c + 2, k + 12, T2, by omega, by omega, fun r hr => ?_⟩
      refine e_tsI (j := 8) (off := 664) 704 dL_law_40 rfl (by rw [hx]; decide) (by decide) rfl rfl ?_
      refine f_aload_n (M := mL_law) 705 dL_law_704 rfl rfl ?_
      refine f_aload_n (M := mL_law) 706 dL_law_705 rfl rfl ?_
      refine f_iload (M := mL_law) 708 dL_law_706 rfl rfl ?_
      refine f_iconst (M := mL_law) 709 dL_law_708 ki_1 rfl ?_
      refine f_iadd (M := mL_law) 710 dL_law_709 rfl ?_
      refine e_iaf (M := mL_law) (w := Lw) (f := xs) (j := (7 * N) + (1)) dL_law_710 (x_kk rfl) rfl (ix_add rfl kn_1) (by omega) (by omega) ?_
      refine f_aload_n (M := mL_law) 712 dL_law_711 rfl rfl ?_
      refine f_iload (M := mL_law) 714 dL_law_712 rfl rfl ?_
      refine f_iconst (M := mL_law) 715 dL_law_714 ki_2 rfl ?_
      refine f_iadd (M := mL_law) 716 dL_law_715 rfl ?_
      refine e_iaf (M := mL_law) (w := Lw) (f := xs) (j := (7 * N) + (2)) dL_law_716 (x_kk rfl) rfl (ix_add rfl kn_2) (by omega) (by omega) ?_
      refine e_if_eqF (M := mL_law) 724 dL_law_717 rfl hb ?_
      refine f_iconst (M := mL_law) 721 dL_law_720 ki_1 rfl ?_
      refine f_goto (M := mL_law) 725 dL_law_721 rfl ?_
      refine f_aload_n (M := mL_law) 726 dL_law_725 rfl rfl ?_
      refine e_cS (M := mL_law) [_] (c + 2) (k + 12) dL_law_726 pa_10193 cc_10193 rfl rfl rfl rfl rfl (show c + 2 ≤ 601024 by omega) (show k + 12 ≤ 7293034 by omega) rfl (h1) rfl ?_
      refine f_istore (M := mL_law) (ls' := [_, _, _, _, _, _, _, _]) 731 dL_law_729 rfl rfl rfl ?_
      refine f_aload_n (M := mL_law) 732 dL_law_731 rfl rfl ?_
      refine f_aload_n (M := mL_law) 733 dL_law_732 rfl rfl ?_
      refine f_iload (M := mL_law) 735 dL_law_733 rfl rfl ?_
      refine f_iconst (M := mL_law) 736 dL_law_735 ki_1 rfl ?_
      refine f_iadd (M := mL_law) 737 dL_law_736 rfl ?_
      refine e_iaf (M := mL_law) (w := Lw) (f := xs) (j := (7 * N) + (1)) dL_law_737 (x_kk rfl) rfl (ix_add rfl kn_1) (by omega) (by omega) ?_
      refine f_aload_n (M := mL_law) 739 dL_law_738 rfl rfl ?_
      refine f_iload (M := mL_law) 741 dL_law_739 rfl rfl ?_
      refine f_iconst (M := mL_law) 742 dL_law_741 ki_2 rfl ?_
      refine f_iadd (M := mL_law) 743 dL_law_742 rfl ?_
      refine e_iaf (M := mL_law) (w := Lw) (f := xs) (j := (7 * N) + (2)) dL_law_743 (x_kk rfl) rfl (ix_add rfl kn_2) (by omega) (by omega) ?_
      refine e_if_eqF (M := mL_law) 751 dL_law_744 rfl hb ?_
      refine f_iconst (M := mL_law) 748 dL_law_747 ki_1 rfl ?_
      refine f_goto (M := mL_law) 752 dL_law_748 rfl ?_
      refine e_cV (M := mL_law) [_] (c + 2) (k + 12) dL_law_752 pa_10195 pb_10195 cc_10195 rfl rfl rfl rfl rfl (show c + 2 ≤ 601024 by omega) (show k + 12 ≤ 7293034 by omega) rfl (h2) rfl ?_
      refine f_lstore (M := mL_law) (ls' := [_, _, _, _, _, _, _, _]) 757 dL_law_755 rfl rfl rfl ?_
      refine f_aload_n (M := mL_law) 758 dL_law_757 rfl rfl ?_
      refine e_cV (M := mL_law) [_] (c + 2) (k + 12) dL_law_758 pa_10163 pb_10163 cc_10163 rfl rfl rfl rfl rfl (show c + 2 ≤ 601024 by omega) (show k + 12 ≤ 7293034 by omega) rfl (c_X9_thrown) rfl ?_
      refine f_iload (M := mL_law) 763 dL_law_761 rfl rfl ?_
      refine e_icmp_eqT (M := mL_law) 768 dL_law_763 rfl ht ?_
      refine f_iload (M := mL_law) 770 dL_law_768 rfl rfl ?_
      refine e_if_neT (M := mL_law) 784 dL_law_770 rfl z ?_
      refine f_goto (M := mL_law) 2888 dL_law_784 rfl ?_
      refine f_iinc (M := mL_law) (ls' := [_, _, _, _, _, _, _, _]) 2891 dL_law_2888 ki_7 rfl rfl rfl rfl ?_
      refine f_goto (M := mL_law) 23 dL_law_2891 rfl ?_
      rw [show Int32.ofNat (7 * N) + 7 = Int32.ofNat (7 * (N + 1)) from ix_add rfl kn_7]; exact hr
theorem lk_9 (hlen : 7 * N + 7 ≤ Lw) (hLw : Lw ≤ 3584) (T : y_T N I L R) (hN : N < 512) (hc : c ≤ 233 + 4 * N) (hk : k ≤ 14655 + 24 * N) (hx : xs (7 * N) &&& 63 = Int32.ofNat 9) : y_Nx Lw xs N I L R c k w5 w6 w7 := by
  have sm : y_OZ N (Lw, xs) mL_isAccurate [.ref 0, .int (xs (7 * N + 1)), .int (xs (7 * N + 2)), .ref 232] mX9_isAccurate [.ref 225, .int (xs (7 * N + 1)), .int (xs (7 * N + 2))] I L R := sim_isAccurateZ (X := (Lw, xs)) T
  obtain ⟨k0, I1, L1, R1, v, I2, L2, hz, h1, h2, ht, hv, T2⟩ := sm
  by_cases z : k0 = 0
  · rcases hz with rfl | rfl
    · refine ⟨I2, L2, R1, some (.int k0), some (.int 0), w7, c + 3, k + 18, T2, by omega, by omega, fun r hr => ?_⟩
      refine e_tsI (j := 9) (off := 747) 787 dL_law_40 rfl (by rw [hx]; decide) (by decide) rfl rfl ?_
      refine f_aload_n (M := mL_law) 788 dL_law_787 rfl rfl ?_
      refine f_aload_n (M := mL_law) 789 dL_law_788 rfl rfl ?_
      refine f_iload (M := mL_law) 791 dL_law_789 rfl rfl ?_
      refine f_iconst (M := mL_law) 792 dL_law_791 ki_1 rfl ?_
      refine f_iadd (M := mL_law) 793 dL_law_792 rfl ?_
      refine e_iaf (M := mL_law) (w := Lw) (f := xs) (j := (7 * N) + (1)) dL_law_793 (x_kk rfl) rfl (ix_add rfl kn_1) (by omega) (by omega) ?_
      refine f_aload_n (M := mL_law) 795 dL_law_794 rfl rfl ?_
      refine f_iload (M := mL_law) 797 dL_law_795 rfl rfl ?_
      refine f_iconst (M := mL_law) 798 dL_law_797 ki_2 rfl ?_
      refine f_iadd (M := mL_law) 799 dL_law_798 rfl ?_
      refine e_iaf (M := mL_law) (w := Lw) (f := xs) (j := (7 * N) + (2)) dL_law_799 (x_kk rfl) rfl (ix_add rfl kn_2) (by omega) (by omega) ?_
      refine f_aload_n (M := mL_law) 801 dL_law_800 rfl rfl ?_
      refine e_cS (M := mL_law) [_] (c + 3) (k + 18) dL_law_801 pa_10196 cc_10196 rfl rfl rfl rfl rfl (show c + 3 ≤ 601024 by omega) (show k + 18 ≤ 7293034 by omega) rfl (h1) rfl ?_
      refine f_istore (M := mL_law) (ls' := [_, _, _, _, _, _, _, _]) 806 dL_law_804 rfl rfl rfl ?_
      refine f_aload_n (M := mL_law) 807 dL_law_806 rfl rfl ?_
      refine f_aload_n (M := mL_law) 808 dL_law_807 rfl rfl ?_
      refine f_iload (M := mL_law) 810 dL_law_808 rfl rfl ?_
      refine f_iconst (M := mL_law) 811 dL_law_810 ki_1 rfl ?_
      refine f_iadd (M := mL_law) 812 dL_law_811 rfl ?_
      refine e_iaf (M := mL_law) (w := Lw) (f := xs) (j := (7 * N) + (1)) dL_law_812 (x_kk rfl) rfl (ix_add rfl kn_1) (by omega) (by omega) ?_
      refine f_aload_n (M := mL_law) 814 dL_law_813 rfl rfl ?_
      refine f_iload (M := mL_law) 816 dL_law_814 rfl rfl ?_
      refine f_iconst (M := mL_law) 817 dL_law_816 ki_2 rfl ?_
      refine f_iadd (M := mL_law) 818 dL_law_817 rfl ?_
      refine e_iaf (M := mL_law) (w := Lw) (f := xs) (j := (7 * N) + (2)) dL_law_818 (x_kk rfl) rfl (ix_add rfl kn_2) (by omega) (by omega) ?_
      refine e_cV (M := mL_law) [_] (c + 3) (k + 18) dL_law_819 pa_10199 pb_10199 cc_10199 rfl rfl rfl rfl rfl (show c + 3 ≤ 601024 by omega) (show k + 18 ≤ 7293034 by omega) rfl (h2) rfl ?_
      refine f_istore (M := mL_law) (ls' := [_, _, _, _, _, _, _, _]) 824 dL_law_822 rfl rfl rfl ?_
      refine f_aload_n (M := mL_law) 825 dL_law_824 rfl rfl ?_
      refine e_cV (M := mL_law) [_] (c + 3) (k + 18) dL_law_825 pa_10163 pb_10163 cc_10163 rfl rfl rfl rfl rfl (show c + 3 ≤ 601024 by omega) (show k + 18 ≤ 7293034 by omega) rfl (c_X9_thrown) rfl ?_
      refine f_iload (M := mL_law) 830 dL_law_828 rfl rfl ?_
      refine e_icmp_eqT (M := mL_law) 835 dL_law_830 rfl ht ?_
      refine f_iload (M := mL_law) 837 dL_law_835 rfl rfl ?_
      refine e_if_neF (M := mL_law) 859 dL_law_837 rfl (fun q => q z) ?_
      refine f_aload_n (M := mL_law) 841 dL_law_840 rfl rfl ?_
      refine f_iconst (M := mL_law) 842 dL_law_841 ki_0 rfl ?_
      refine e_lld (M := mL_law) (w := 1) (j := 0) dL_law_842 (x_kk rfl) rfl kn_0 (by omega) (by omega) ?_
      refine f_iload (M := mL_law) 845 dL_law_843 rfl rfl ?_
      refine e_if_eqT (M := mL_law) 852 dL_law_845 rfl rfl ?_
      refine f_lconst (M := mL_law) 853 dL_law_852 kl_0 rfl ?_
      refine f_lcmp (M := mL_law) 854 dL_law_853 rfl ?_
      refine e_if_eqT (M := mL_law) 859 dL_law_854 rfl (lc_eq.mpr (hv z)) ?_
      refine f_goto (M := mL_law) 2888 dL_law_859 rfl ?_
      refine f_iinc (M := mL_law) (ls' := [_, _, _, _, _, _, _, _]) 2891 dL_law_2888 ki_7 rfl rfl rfl rfl ?_
      refine f_goto (M := mL_law) 23 dL_law_2891 rfl ?_
      rw [show Int32.ofNat (7 * N) + 7 = Int32.ofNat (7 * (N + 1)) from ix_add rfl kn_7]; exact hr
    · refine ⟨I2, L2, R1, some (.int k0), some (.int 1), w7, c + 3, k + 18, T2, by omega, by omega, fun r hr => ?_⟩
      refine e_tsI (j := 9) (off := 747) 787 dL_law_40 rfl (by rw [hx]; decide) (by decide) rfl rfl ?_
      refine f_aload_n (M := mL_law) 788 dL_law_787 rfl rfl ?_
      refine f_aload_n (M := mL_law) 789 dL_law_788 rfl rfl ?_
      refine f_iload (M := mL_law) 791 dL_law_789 rfl rfl ?_
      refine f_iconst (M := mL_law) 792 dL_law_791 ki_1 rfl ?_
      refine f_iadd (M := mL_law) 793 dL_law_792 rfl ?_
      refine e_iaf (M := mL_law) (w := Lw) (f := xs) (j := (7 * N) + (1)) dL_law_793 (x_kk rfl) rfl (ix_add rfl kn_1) (by omega) (by omega) ?_
      refine f_aload_n (M := mL_law) 795 dL_law_794 rfl rfl ?_
      refine f_iload (M := mL_law) 797 dL_law_795 rfl rfl ?_
      refine f_iconst (M := mL_law) 798 dL_law_797 ki_2 rfl ?_
      refine f_iadd (M := mL_law) 799 dL_law_798 rfl ?_
      refine e_iaf (M := mL_law) (w := Lw) (f := xs) (j := (7 * N) + (2)) dL_law_799 (x_kk rfl) rfl (ix_add rfl kn_2) (by omega) (by omega) ?_
      refine f_aload_n (M := mL_law) 801 dL_law_800 rfl rfl ?_
      refine e_cS (M := mL_law) [_] (c + 3) (k + 18) dL_law_801 pa_10196 cc_10196 rfl rfl rfl rfl rfl (show c + 3 ≤ 601024 by omega) (show k + 18 ≤ 7293034 by omega) rfl (h1) rfl ?_
      refine f_istore (M := mL_law) (ls' := [_, _, _, _, _, _, _, _]) 806 dL_law_804 rfl rfl rfl ?_
      refine f_aload_n (M := mL_law) 807 dL_law_806 rfl rfl ?_
      refine f_aload_n (M := mL_law) 808 dL_law_807 rfl rfl ?_
      refine f_iload (M := mL_law) 810 dL_law_808 rfl rfl ?_
      refine f_iconst (M := mL_law) 811 dL_law_810 ki_1 rfl ?_
      refine f_iadd (M := mL_law) 812 dL_law_811 rfl ?_
      refine e_iaf (M := mL_law) (w := Lw) (f := xs) (j := (7 * N) + (1)) dL_law_812 (x_kk rfl) rfl (ix_add rfl kn_1) (by omega) (by omega) ?_
      refine f_aload_n (M := mL_law) 814 dL_law_813 rfl rfl ?_
      refine f_iload (M := mL_law) 816 dL_law_814 rfl rfl ?_
      refine f_iconst (M := mL_law) 817 dL_law_816 ki_2 rfl ?_
      refine f_iadd (M := mL_law) 818 dL_law_817 rfl ?_
      refine e_iaf (M := mL_law) (w := Lw) (f := xs) (j := (7 * N) + (2)) dL_law_818 (x_kk rfl) rfl (ix_add rfl kn_2) (by omega) (by omega) ?_
      refine e_cV (M := mL_law) [_] (c + 3) (k + 18) dL_law_819 pa_10199 pb_10199 cc_10199 rfl rfl rfl rfl rfl (show c + 3 ≤ 601024 by omega) (show k + 18 ≤ 7293034 by omega) rfl (h2) rfl ?_
      refine f_istore (M := mL_law) (ls' := [_, _, _, _, _, _, _, _]) 824 dL_law_822 rfl rfl rfl ?_
      refine f_aload_n (M := mL_law) 825 dL_law_824 rfl rfl ?_
      refine e_cV (M := mL_law) [_] (c + 3) (k + 18) dL_law_825 pa_10163 pb_10163 cc_10163 rfl rfl rfl rfl rfl (show c + 3 ≤ 601024 by omega) (show k + 18 ≤ 7293034 by omega) rfl (c_X9_thrown) rfl ?_
      refine f_iload (M := mL_law) 830 dL_law_828 rfl rfl ?_
      refine e_icmp_eqT (M := mL_law) 835 dL_law_830 rfl ht ?_
      refine f_iload (M := mL_law) 837 dL_law_835 rfl rfl ?_
      refine e_if_neF (M := mL_law) 859 dL_law_837 rfl (fun q => q z) ?_
      refine f_aload_n (M := mL_law) 841 dL_law_840 rfl rfl ?_
      refine f_iconst (M := mL_law) 842 dL_law_841 ki_0 rfl ?_
      refine e_lld (M := mL_law) (w := 1) (j := 0) dL_law_842 (x_kk rfl) rfl kn_0 (by omega) (by omega) ?_
      refine f_iload (M := mL_law) 845 dL_law_843 rfl rfl ?_
      refine e_if_eqF (M := mL_law) 852 dL_law_845 rfl (by decide) ?_
      refine f_lconst (M := mL_law) 849 dL_law_848 kl_1 rfl ?_
      refine f_goto (M := mL_law) 853 dL_law_849 rfl ?_
      refine f_lcmp (M := mL_law) 854 dL_law_853 rfl ?_
      refine e_if_eqT (M := mL_law) 859 dL_law_854 rfl (lc_eq.mpr (hv z)) ?_
      refine f_goto (M := mL_law) 2888 dL_law_859 rfl ?_
      refine f_iinc (M := mL_law) (ls' := [_, _, _, _, _, _, _, _]) 2891 dL_law_2888 ki_7 rfl rfl rfl rfl ?_
      refine f_goto (M := mL_law) 23 dL_law_2891 rfl ?_
      rw [show Int32.ofNat (7 * N) + 7 = Int32.ofNat (7 * (N + 1)) from ix_add rfl kn_7]; exact hr
  · refine ⟨I2, L2, R1, some (.int k0), some (.int v), w7, c + 3, k + 18, T2, by omega, by omega, fun r hr => ?_⟩
    refine e_tsI (j := 9) (off := 747) 787 dL_law_40 rfl (by rw [hx]; decide) (by decide) rfl rfl ?_
    refine f_aload_n (M := mL_law) 788 dL_law_787 rfl rfl ?_
    refine f_aload_n (M := mL_law) 789 dL_law_788 rfl rfl ?_
    refine f_iload (M := mL_law) 791 dL_law_789 rfl rfl ?_
    refine f_iconst (M := mL_law) 792 dL_law_791 ki_1 rfl ?_
    refine f_iadd (M := mL_law) 793 dL_law_792 rfl ?_
    refine e_iaf (M := mL_law) (w := Lw) (f := xs) (j := (7 * N) + (1)) dL_law_793 (x_kk rfl) rfl (ix_add rfl kn_1) (by omega) (by omega) ?_
    refine f_aload_n (M := mL_law) 795 dL_law_794 rfl rfl ?_
    refine f_iload (M := mL_law) 797 dL_law_795 rfl rfl ?_
    refine f_iconst (M := mL_law) 798 dL_law_797 ki_2 rfl ?_
    refine f_iadd (M := mL_law) 799 dL_law_798 rfl ?_
    refine e_iaf (M := mL_law) (w := Lw) (f := xs) (j := (7 * N) + (2)) dL_law_799 (x_kk rfl) rfl (ix_add rfl kn_2) (by omega) (by omega) ?_
    refine f_aload_n (M := mL_law) 801 dL_law_800 rfl rfl ?_
    refine e_cS (M := mL_law) [_] (c + 3) (k + 18) dL_law_801 pa_10196 cc_10196 rfl rfl rfl rfl rfl (show c + 3 ≤ 601024 by omega) (show k + 18 ≤ 7293034 by omega) rfl (h1) rfl ?_
    refine f_istore (M := mL_law) (ls' := [_, _, _, _, _, _, _, _]) 806 dL_law_804 rfl rfl rfl ?_
    refine f_aload_n (M := mL_law) 807 dL_law_806 rfl rfl ?_
    refine f_aload_n (M := mL_law) 808 dL_law_807 rfl rfl ?_
    refine f_iload (M := mL_law) 810 dL_law_808 rfl rfl ?_
    refine f_iconst (M := mL_law) 811 dL_law_810 ki_1 rfl ?_
    refine f_iadd (M := mL_law) 812 dL_law_811 rfl ?_
    refine e_iaf (M := mL_law) (w := Lw) (f := xs) (j := (7 * N) + (1)) dL_law_812 (x_kk rfl) rfl (ix_add rfl kn_1) (by omega) (by omega) ?_
    refine f_aload_n (M := mL_law) 814 dL_law_813 rfl rfl ?_
    refine f_iload (M := mL_law) 816 dL_law_814 rfl rfl ?_
    refine f_iconst (M := mL_law) 817 dL_law_816 ki_2 rfl ?_
    refine f_iadd (M := mL_law) 818 dL_law_817 rfl ?_
    refine e_iaf (M := mL_law) (w := Lw) (f := xs) (j := (7 * N) + (2)) dL_law_818 (x_kk rfl) rfl (ix_add rfl kn_2) (by omega) (by omega) ?_
    refine e_cV (M := mL_law) [_] (c + 3) (k + 18) dL_law_819 pa_10199 pb_10199 cc_10199 rfl rfl rfl rfl rfl (show c + 3 ≤ 601024 by omega) (show k + 18 ≤ 7293034 by omega) rfl (h2) rfl ?_
    refine f_istore (M := mL_law) (ls' := [_, _, _, _, _, _, _, _]) 824 dL_law_822 rfl rfl rfl ?_
    refine f_aload_n (M := mL_law) 825 dL_law_824 rfl rfl ?_
    refine e_cV (M := mL_law) [_] (c + 3) (k + 18) dL_law_825 pa_10163 pb_10163 cc_10163 rfl rfl rfl rfl rfl (show c + 3 ≤ 601024 by omega) (show k + 18 ≤ 7293034 by omega) rfl (c_X9_thrown) rfl ?_
    refine f_iload (M := mL_law) 830 dL_law_828 rfl rfl ?_
    refine e_icmp_eqT (M := mL_law) 835 dL_law_830 rfl ht ?_
    refine f_iload (M := mL_law) 837 dL_law_835 rfl rfl ?_
    refine e_if_neT (M := mL_law) 859 dL_law_837 rfl z ?_
    refine f_goto (M := mL_law) 2888 dL_law_859 rfl ?_
    refine f_iinc (M := mL_law) (ls' := [_, _, _, _, _, _, _, _]) 2891 dL_law_2888 ki_7 rfl rfl rfl rfl ?_
    refine f_goto (M := mL_law) 23 dL_law_2891 rfl ?_
    rw [show Int32.ofNat (7 * N) + 7 = Int32.ofNat (7 * (N + 1)) from ix_add rfl kn_7]; exact hr
theorem lk_10 (hlen : 7 * N + 7 ≤ Lw) (hLw : Lw ≤ 3584) (T : y_T N I L R) (hN : N < 512) (hc : c ≤ 233 + 4 * N) (hk : k ≤ 14655 + 24 * N) (hx : xs (7 * N) &&& 63 = Int32.ofNat 10) : y_Nx Lw xs N I L R c k w5 w6 w7 := by
  have sm : y_OI N (Lw, xs) mL_neededPlots [.ref 0, .int (xs (7 * N + 1)), .int (xs (7 * N + 2)), .ref 232] mX9_neededPlots [.ref 225, .int (xs (7 * N + 1)), .int (xs (7 * N + 2))] I L R := sim_neededPlots (X := (Lw, xs)) T
  obtain ⟨k0, I1, L1, R1, v, I2, L2, h1, h2, ht, hv, T2⟩ := sm
  by_cases z : k0 = 0
  · refine ⟨I2, L2, R1, some (.int k0), some (.int v), w7, c + 3, k + 18, T2, by omega, by omega, fun r hr => ?_⟩
    refine e_tsI (j := 10) (off := 822) 862 dL_law_40 rfl (by rw [hx]; decide) (by decide) rfl rfl ?_
    refine f_aload_n (M := mL_law) 863 dL_law_862 rfl rfl ?_
    refine f_aload_n (M := mL_law) 864 dL_law_863 rfl rfl ?_
    refine f_iload (M := mL_law) 866 dL_law_864 rfl rfl ?_
    refine f_iconst (M := mL_law) 867 dL_law_866 ki_1 rfl ?_
    refine f_iadd (M := mL_law) 868 dL_law_867 rfl ?_
    refine e_iaf (M := mL_law) (w := Lw) (f := xs) (j := (7 * N) + (1)) dL_law_868 (x_kk rfl) rfl (ix_add rfl kn_1) (by omega) (by omega) ?_
    refine f_aload_n (M := mL_law) 870 dL_law_869 rfl rfl ?_
    refine f_iload (M := mL_law) 872 dL_law_870 rfl rfl ?_
    refine f_iconst (M := mL_law) 873 dL_law_872 ki_2 rfl ?_
    refine f_iadd (M := mL_law) 874 dL_law_873 rfl ?_
    refine e_iaf (M := mL_law) (w := Lw) (f := xs) (j := (7 * N) + (2)) dL_law_874 (x_kk rfl) rfl (ix_add rfl kn_2) (by omega) (by omega) ?_
    refine f_aload_n (M := mL_law) 876 dL_law_875 rfl rfl ?_
    refine e_cS (M := mL_law) [_] (c + 3) (k + 18) dL_law_876 pa_10200 cc_10200 rfl rfl rfl rfl rfl (show c + 3 ≤ 601024 by omega) (show k + 18 ≤ 7293034 by omega) rfl (h1) rfl ?_
    refine f_istore (M := mL_law) (ls' := [_, _, _, _, _, _, _, _]) 881 dL_law_879 rfl rfl rfl ?_
    refine f_aload_n (M := mL_law) 882 dL_law_881 rfl rfl ?_
    refine f_aload_n (M := mL_law) 883 dL_law_882 rfl rfl ?_
    refine f_iload (M := mL_law) 885 dL_law_883 rfl rfl ?_
    refine f_iconst (M := mL_law) 886 dL_law_885 ki_1 rfl ?_
    refine f_iadd (M := mL_law) 887 dL_law_886 rfl ?_
    refine e_iaf (M := mL_law) (w := Lw) (f := xs) (j := (7 * N) + (1)) dL_law_887 (x_kk rfl) rfl (ix_add rfl kn_1) (by omega) (by omega) ?_
    refine f_aload_n (M := mL_law) 889 dL_law_888 rfl rfl ?_
    refine f_iload (M := mL_law) 891 dL_law_889 rfl rfl ?_
    refine f_iconst (M := mL_law) 892 dL_law_891 ki_2 rfl ?_
    refine f_iadd (M := mL_law) 893 dL_law_892 rfl ?_
    refine e_iaf (M := mL_law) (w := Lw) (f := xs) (j := (7 * N) + (2)) dL_law_893 (x_kk rfl) rfl (ix_add rfl kn_2) (by omega) (by omega) ?_
    refine e_cV (M := mL_law) [_] (c + 3) (k + 18) dL_law_894 pa_10202 pb_10202 cc_10202 rfl rfl rfl rfl rfl (show c + 3 ≤ 601024 by omega) (show k + 18 ≤ 7293034 by omega) rfl (h2) rfl ?_
    refine f_istore (M := mL_law) (ls' := [_, _, _, _, _, _, _, _]) 899 dL_law_897 rfl rfl rfl ?_
    refine f_aload_n (M := mL_law) 900 dL_law_899 rfl rfl ?_
    refine e_cV (M := mL_law) [_] (c + 3) (k + 18) dL_law_900 pa_10163 pb_10163 cc_10163 rfl rfl rfl rfl rfl (show c + 3 ≤ 601024 by omega) (show k + 18 ≤ 7293034 by omega) rfl (c_X9_thrown) rfl ?_
    refine f_iload (M := mL_law) 905 dL_law_903 rfl rfl ?_
    refine e_icmp_eqT (M := mL_law) 910 dL_law_905 rfl ht ?_
    refine f_iload (M := mL_law) 912 dL_law_910 rfl rfl ?_
    refine e_if_neF (M := mL_law) 927 dL_law_912 rfl (fun q => q z) ?_
    refine f_aload_n (M := mL_law) 916 dL_law_915 rfl rfl ?_
    refine f_iconst (M := mL_law) 917 dL_law_916 ki_0 rfl ?_
    refine e_lld (M := mL_law) (w := 1) (j := 0) dL_law_917 (x_kk rfl) rfl kn_0 (by omega) (by omega) ?_
    refine f_iload (M := mL_law) 920 dL_law_918 rfl rfl ?_
    refine f_i2l (M := mL_law) 921 dL_law_920 rfl ?_
    refine f_lcmp (M := mL_law) 922 dL_law_921 rfl ?_
    refine e_if_eqT (M := mL_law) 927 dL_law_922 rfl (lc_eq.mpr (hv z)) ?_
    refine f_goto (M := mL_law) 2888 dL_law_927 rfl ?_
    refine f_iinc (M := mL_law) (ls' := [_, _, _, _, _, _, _, _]) 2891 dL_law_2888 ki_7 rfl rfl rfl rfl ?_
    refine f_goto (M := mL_law) 23 dL_law_2891 rfl ?_
    rw [show Int32.ofNat (7 * N) + 7 = Int32.ofNat (7 * (N + 1)) from ix_add rfl kn_7]; exact hr
  · refine ⟨I2, L2, R1, some (.int k0), some (.int v), w7, c + 3, k + 18, T2, by omega, by omega, fun r hr => ?_⟩
    refine e_tsI (j := 10) (off := 822) 862 dL_law_40 rfl (by rw [hx]; decide) (by decide) rfl rfl ?_
    refine f_aload_n (M := mL_law) 863 dL_law_862 rfl rfl ?_
    refine f_aload_n (M := mL_law) 864 dL_law_863 rfl rfl ?_
    refine f_iload (M := mL_law) 866 dL_law_864 rfl rfl ?_
    refine f_iconst (M := mL_law) 867 dL_law_866 ki_1 rfl ?_
    refine f_iadd (M := mL_law) 868 dL_law_867 rfl ?_
    refine e_iaf (M := mL_law) (w := Lw) (f := xs) (j := (7 * N) + (1)) dL_law_868 (x_kk rfl) rfl (ix_add rfl kn_1) (by omega) (by omega) ?_
    refine f_aload_n (M := mL_law) 870 dL_law_869 rfl rfl ?_
    refine f_iload (M := mL_law) 872 dL_law_870 rfl rfl ?_
    refine f_iconst (M := mL_law) 873 dL_law_872 ki_2 rfl ?_
    refine f_iadd (M := mL_law) 874 dL_law_873 rfl ?_
    refine e_iaf (M := mL_law) (w := Lw) (f := xs) (j := (7 * N) + (2)) dL_law_874 (x_kk rfl) rfl (ix_add rfl kn_2) (by omega) (by omega) ?_
    refine f_aload_n (M := mL_law) 876 dL_law_875 rfl rfl ?_
    refine e_cS (M := mL_law) [_] (c + 3) (k + 18) dL_law_876 pa_10200 cc_10200 rfl rfl rfl rfl rfl (show c + 3 ≤ 601024 by omega) (show k + 18 ≤ 7293034 by omega) rfl (h1) rfl ?_
    refine f_istore (M := mL_law) (ls' := [_, _, _, _, _, _, _, _]) 881 dL_law_879 rfl rfl rfl ?_
    refine f_aload_n (M := mL_law) 882 dL_law_881 rfl rfl ?_
    refine f_aload_n (M := mL_law) 883 dL_law_882 rfl rfl ?_
    refine f_iload (M := mL_law) 885 dL_law_883 rfl rfl ?_
    refine f_iconst (M := mL_law) 886 dL_law_885 ki_1 rfl ?_
    refine f_iadd (M := mL_law) 887 dL_law_886 rfl ?_
    refine e_iaf (M := mL_law) (w := Lw) (f := xs) (j := (7 * N) + (1)) dL_law_887 (x_kk rfl) rfl (ix_add rfl kn_1) (by omega) (by omega) ?_
    refine f_aload_n (M := mL_law) 889 dL_law_888 rfl rfl ?_
    refine f_iload (M := mL_law) 891 dL_law_889 rfl rfl ?_
    refine f_iconst (M := mL_law) 892 dL_law_891 ki_2 rfl ?_
    refine f_iadd (M := mL_law) 893 dL_law_892 rfl ?_
    refine e_iaf (M := mL_law) (w := Lw) (f := xs) (j := (7 * N) + (2)) dL_law_893 (x_kk rfl) rfl (ix_add rfl kn_2) (by omega) (by omega) ?_
    refine e_cV (M := mL_law) [_] (c + 3) (k + 18) dL_law_894 pa_10202 pb_10202 cc_10202 rfl rfl rfl rfl rfl (show c + 3 ≤ 601024 by omega) (show k + 18 ≤ 7293034 by omega) rfl (h2) rfl ?_
    refine f_istore (M := mL_law) (ls' := [_, _, _, _, _, _, _, _]) 899 dL_law_897 rfl rfl rfl ?_
    refine f_aload_n (M := mL_law) 900 dL_law_899 rfl rfl ?_
    refine e_cV (M := mL_law) [_] (c + 3) (k + 18) dL_law_900 pa_10163 pb_10163 cc_10163 rfl rfl rfl rfl rfl (show c + 3 ≤ 601024 by omega) (show k + 18 ≤ 7293034 by omega) rfl (c_X9_thrown) rfl ?_
    refine f_iload (M := mL_law) 905 dL_law_903 rfl rfl ?_
    refine e_icmp_eqT (M := mL_law) 910 dL_law_905 rfl ht ?_
    refine f_iload (M := mL_law) 912 dL_law_910 rfl rfl ?_
    refine e_if_neT (M := mL_law) 927 dL_law_912 rfl z ?_
    refine f_goto (M := mL_law) 2888 dL_law_927 rfl ?_
    refine f_iinc (M := mL_law) (ls' := [_, _, _, _, _, _, _, _]) 2891 dL_law_2888 ki_7 rfl rfl rfl rfl ?_
    refine f_goto (M := mL_law) 23 dL_law_2891 rfl ?_
    rw [show Int32.ofNat (7 * N) + 7 = Int32.ofNat (7 * (N + 1)) from ix_add rfl kn_7]; exact hr
theorem lk_11 (hlen : 7 * N + 7 ≤ Lw) (hLw : Lw ≤ 3584) (T : y_T N I L R) (hN : N < 512) (hc : c ≤ 233 + 4 * N) (hk : k ≤ 14655 + 24 * N) (hx : xs (7 * N) &&& 63 = Int32.ofNat 11) : y_Nx Lw xs N I L R c k w5 w6 w7 := by
  have sm : y_OI N (Lw, xs) mL_mostInfluentialPlot [.ref 0, .int (xs (7 * N + 1)), .ref 232] mX9_mostInfluentialPlot [.ref 225, .int (xs (7 * N + 1))] I L R := sim_mostInfluentialPlot (X := (Lw, xs)) T
  obtain ⟨k0, I1, L1, R1, v, I2, L2, h1, h2, ht, hv, T2⟩ := sm
  by_cases z : k0 = 0
  · refine ⟨I2, L2, R1, some (.int k0), some (.int v), w7, c + 2, k + 12, T2, by omega, by omega, fun r hr => ?_⟩
    refine e_tsI (j := 11) (off := 890) 930 dL_law_40 rfl (by rw [hx]; decide) (by decide) rfl rfl ?_
    refine f_aload_n (M := mL_law) 931 dL_law_930 rfl rfl ?_
    refine f_aload_n (M := mL_law) 932 dL_law_931 rfl rfl ?_
    refine f_iload (M := mL_law) 934 dL_law_932 rfl rfl ?_
    refine f_iconst (M := mL_law) 935 dL_law_934 ki_1 rfl ?_
    refine f_iadd (M := mL_law) 936 dL_law_935 rfl ?_
    refine e_iaf (M := mL_law) (w := Lw) (f := xs) (j := (7 * N) + (1)) dL_law_936 (x_kk rfl) rfl (ix_add rfl kn_1) (by omega) (by omega) ?_
    refine f_aload_n (M := mL_law) 938 dL_law_937 rfl rfl ?_
    refine e_cS (M := mL_law) [_] (c + 2) (k + 12) dL_law_938 pa_10203 cc_10203 rfl rfl rfl rfl rfl (show c + 2 ≤ 601024 by omega) (show k + 12 ≤ 7293034 by omega) rfl (h1) rfl ?_
    refine f_istore (M := mL_law) (ls' := [_, _, _, _, _, _, _, _]) 943 dL_law_941 rfl rfl rfl ?_
    refine f_aload_n (M := mL_law) 944 dL_law_943 rfl rfl ?_
    refine f_aload_n (M := mL_law) 945 dL_law_944 rfl rfl ?_
    refine f_iload (M := mL_law) 947 dL_law_945 rfl rfl ?_
    refine f_iconst (M := mL_law) 948 dL_law_947 ki_1 rfl ?_
    refine f_iadd (M := mL_law) 949 dL_law_948 rfl ?_
    refine e_iaf (M := mL_law) (w := Lw) (f := xs) (j := (7 * N) + (1)) dL_law_949 (x_kk rfl) rfl (ix_add rfl kn_1) (by omega) (by omega) ?_
    refine e_cV (M := mL_law) [_] (c + 2) (k + 12) dL_law_950 pa_10205 pb_10205 cc_10205 rfl rfl rfl rfl rfl (show c + 2 ≤ 601024 by omega) (show k + 12 ≤ 7293034 by omega) rfl (h2) rfl ?_
    refine f_istore (M := mL_law) (ls' := [_, _, _, _, _, _, _, _]) 955 dL_law_953 rfl rfl rfl ?_
    refine f_aload_n (M := mL_law) 956 dL_law_955 rfl rfl ?_
    refine e_cV (M := mL_law) [_] (c + 2) (k + 12) dL_law_956 pa_10163 pb_10163 cc_10163 rfl rfl rfl rfl rfl (show c + 2 ≤ 601024 by omega) (show k + 12 ≤ 7293034 by omega) rfl (c_X9_thrown) rfl ?_
    refine f_iload (M := mL_law) 961 dL_law_959 rfl rfl ?_
    refine e_icmp_eqT (M := mL_law) 966 dL_law_961 rfl ht ?_
    refine f_iload (M := mL_law) 968 dL_law_966 rfl rfl ?_
    refine e_if_neF (M := mL_law) 983 dL_law_968 rfl (fun q => q z) ?_
    refine f_aload_n (M := mL_law) 972 dL_law_971 rfl rfl ?_
    refine f_iconst (M := mL_law) 973 dL_law_972 ki_0 rfl ?_
    refine e_lld (M := mL_law) (w := 1) (j := 0) dL_law_973 (x_kk rfl) rfl kn_0 (by omega) (by omega) ?_
    refine f_iload (M := mL_law) 976 dL_law_974 rfl rfl ?_
    refine f_i2l (M := mL_law) 977 dL_law_976 rfl ?_
    refine f_lcmp (M := mL_law) 978 dL_law_977 rfl ?_
    refine e_if_eqT (M := mL_law) 983 dL_law_978 rfl (lc_eq.mpr (hv z)) ?_
    refine f_goto (M := mL_law) 2888 dL_law_983 rfl ?_
    refine f_iinc (M := mL_law) (ls' := [_, _, _, _, _, _, _, _]) 2891 dL_law_2888 ki_7 rfl rfl rfl rfl ?_
    refine f_goto (M := mL_law) 23 dL_law_2891 rfl ?_
    rw [show Int32.ofNat (7 * N) + 7 = Int32.ofNat (7 * (N + 1)) from ix_add rfl kn_7]; exact hr
  · refine ⟨I2, L2, R1, some (.int k0), some (.int v), w7, c + 2, k + 12, T2, by omega, by omega, fun r hr => ?_⟩
    refine e_tsI (j := 11) (off := 890) 930 dL_law_40 rfl (by rw [hx]; decide) (by decide) rfl rfl ?_
    refine f_aload_n (M := mL_law) 931 dL_law_930 rfl rfl ?_
    refine f_aload_n (M := mL_law) 932 dL_law_931 rfl rfl ?_
    refine f_iload (M := mL_law) 934 dL_law_932 rfl rfl ?_
    refine f_iconst (M := mL_law) 935 dL_law_934 ki_1 rfl ?_
    refine f_iadd (M := mL_law) 936 dL_law_935 rfl ?_
    refine e_iaf (M := mL_law) (w := Lw) (f := xs) (j := (7 * N) + (1)) dL_law_936 (x_kk rfl) rfl (ix_add rfl kn_1) (by omega) (by omega) ?_
    refine f_aload_n (M := mL_law) 938 dL_law_937 rfl rfl ?_
    refine e_cS (M := mL_law) [_] (c + 2) (k + 12) dL_law_938 pa_10203 cc_10203 rfl rfl rfl rfl rfl (show c + 2 ≤ 601024 by omega) (show k + 12 ≤ 7293034 by omega) rfl (h1) rfl ?_
    refine f_istore (M := mL_law) (ls' := [_, _, _, _, _, _, _, _]) 943 dL_law_941 rfl rfl rfl ?_
    refine f_aload_n (M := mL_law) 944 dL_law_943 rfl rfl ?_
    refine f_aload_n (M := mL_law) 945 dL_law_944 rfl rfl ?_
    refine f_iload (M := mL_law) 947 dL_law_945 rfl rfl ?_
    refine f_iconst (M := mL_law) 948 dL_law_947 ki_1 rfl ?_
    refine f_iadd (M := mL_law) 949 dL_law_948 rfl ?_
    refine e_iaf (M := mL_law) (w := Lw) (f := xs) (j := (7 * N) + (1)) dL_law_949 (x_kk rfl) rfl (ix_add rfl kn_1) (by omega) (by omega) ?_
    refine e_cV (M := mL_law) [_] (c + 2) (k + 12) dL_law_950 pa_10205 pb_10205 cc_10205 rfl rfl rfl rfl rfl (show c + 2 ≤ 601024 by omega) (show k + 12 ≤ 7293034 by omega) rfl (h2) rfl ?_
    refine f_istore (M := mL_law) (ls' := [_, _, _, _, _, _, _, _]) 955 dL_law_953 rfl rfl rfl ?_
    refine f_aload_n (M := mL_law) 956 dL_law_955 rfl rfl ?_
    refine e_cV (M := mL_law) [_] (c + 2) (k + 12) dL_law_956 pa_10163 pb_10163 cc_10163 rfl rfl rfl rfl rfl (show c + 2 ≤ 601024 by omega) (show k + 12 ≤ 7293034 by omega) rfl (c_X9_thrown) rfl ?_
    refine f_iload (M := mL_law) 961 dL_law_959 rfl rfl ?_
    refine e_icmp_eqT (M := mL_law) 966 dL_law_961 rfl ht ?_
    refine f_iload (M := mL_law) 968 dL_law_966 rfl rfl ?_
    refine e_if_neT (M := mL_law) 983 dL_law_968 rfl z ?_
    refine f_goto (M := mL_law) 2888 dL_law_983 rfl ?_
    refine f_iinc (M := mL_law) (ls' := [_, _, _, _, _, _, _, _]) 2891 dL_law_2888 ki_7 rfl rfl rfl rfl ?_
    refine f_goto (M := mL_law) 23 dL_law_2891 rfl ?_
    rw [show Int32.ofNat (7 * N) + 7 = Int32.ofNat (7 * (N + 1)) from ix_add rfl kn_7]; exact hr
end
end

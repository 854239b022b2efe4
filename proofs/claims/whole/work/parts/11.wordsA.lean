def x_cd (M : x_MI) : Cond := match x_mh M with
  | [] => .code (x_my M) (x_mb M) (x_ml M) (x_mr M)
  | _ :: _ => .codeWith (x_my M) (x_mb M) (x_ml M) (x_mr M) (x_mh M)
def x_plain (y : MethodName) (n : Nat) : Prop := plainFor y = true ∧ y.cls ≠ "java/lang/invoke/MethodHandle" ∧ y.cls ≠ "java/lang/invoke/VarHandle" ∧ (parseMethodDescriptor y.desc).map (fun d => d.parameters.length) = some n
/-- what stands in the tables of a method: its code, its class -/
def x_mOK (N : x_MI) (n : Nat) : Prop := x_cd N ∈ x_tb ∧ Cond.initialized (x_my N).cls ∈ x_tb ∧ x_plain (x_my N) n ∧ (x_my N).cls = x_own (x_mo N) ∧ x_ml N ≤ 41
/-- .. and of a call, by its kind -/
def x_kOK (own : String) (idx kind : Nat) (N : x_MI) : Prop := match kind with
  | 0 => Cond.methodLink own idx (x_my N) ∈ x_tb ∧ Cond.instanceMethod (x_my N) ∈ x_tb ∧ Cond.selects (x_my N).cls (x_my N) (x_my N) ∈ x_tb ∧ (∃ r : vw_C, vwCl[x_mo N]? = some r ∧ r.1 = (x_my N).cls) ∧ x_mh N = []
  | 1 => Cond.methodLink own idx (x_my N) ∈ x_tb ∧ Cond.static (x_my N) ∈ x_tb ∧ x_mh N = []
  | 2 => Cond.methodLink own idx (x_my N) ∈ x_tb ∧ Cond.instanceMethod (x_my N) ∈ x_tb ∧ (x_my N).name = "<init>" ∧ x_mh N = [] ∧ x_mr N = none
  | 3 => Cond.static (x_my N) ∈ x_tb ∧ x_mh N = []
  | _ => Cond.methodLink own idx (x_my N) ∈ x_tb ∧ Cond.static (x_my N) ∈ x_tb ∧ x_mh N ≠ []
def x_cOK (e : Nat × Nat × x_MI × Nat) : Prop := x_mOK e.2.2.1 (if e.2.1 = 0 ∨ e.2.1 = 2 then e.2.2.2 - 1 else e.2.2.2) ∧ (e.2.1 = 0 ∨ e.2.1 = 2 → 1 ≤ e.2.2.2) ∧ x_kOK (x_own (e.1 / 1000)) (e.1 % 1000) e.2.1 e.2.2.1
set_option maxRecDepth 100000 in
theorem x_m_X8_init : x_mOK mX8_init 0 := ⟨x_tbm 79 rfl rfl, x_tbm 51 (by decide +kernel) rfl, ⟨by decide +kernel, by decide +kernel, by decide +kernel, by decide +kernel⟩, rfl, Nat.le_of_ble_eq_true rfl⟩
theorem x_c0 : x_cOK (10153, 2, mX8_init, 1) := ⟨x_m_X8_init, fun _ => by decide, ⟨x_tbm 77 (by decide +kernel) rfl, x_tbm 78 (by decide +kernel) rfl, rfl, rfl, rfl⟩⟩
set_option maxRecDepth 100000 in
theorem x_m_X5_init : x_mOK mX5_init 0 := ⟨x_tbm 87 rfl rfl, x_tbm 52 (by decide +kernel) rfl, ⟨by decide +kernel, by decide +kernel, by decide +kernel, by decide +kernel⟩, rfl, Nat.le_of_ble_eq_true rfl⟩
theorem x_c1 : x_cOK (8009, 2, mX5_init, 1) := ⟨x_m_X5_init, fun _ => by decide, ⟨x_tbm 85 (by decide +kernel) rfl, x_tbm 86 (by decide +kernel) rfl, rfl, rfl, rfl⟩⟩
set_option maxRecDepth 100000 in
theorem x_m_X3_init : x_mOK mX3_init 0 := ⟨x_tbm 118 rfl rfl, x_tbm 53 (by decide +kernel) rfl, ⟨by decide +kernel, by decide +kernel, by decide +kernel, by decide +kernel⟩, rfl, Nat.le_of_ble_eq_true rfl⟩
theorem x_c2 : x_cOK (8018, 2, mX3_init, 1) := ⟨x_m_X3_init, fun _ => by decide, ⟨x_tbm 116 (by decide +kernel) rfl, x_tbm 117 (by decide +kernel) rfl, rfl, rfl, rfl⟩⟩
set_option maxRecDepth 100000 in
theorem x_m_X6_init : x_mOK mX6_init 0 := ⟨x_tbm 125 rfl rfl, x_tbm 54 (by decide +kernel) rfl, ⟨by decide +kernel, by decide +kernel, by decide +kernel, by decide +kernel⟩, rfl, Nat.le_of_ble_eq_true rfl⟩
theorem x_c3 : x_cOK (3017, 2, mX6_init, 1) := ⟨x_m_X6_init, fun _ => by decide, ⟨x_tbm 123 (by decide +kernel) rfl, x_tbm 124 (by decide +kernel) rfl, rfl, rfl, rfl⟩⟩
set_option maxRecDepth 100000 in
theorem x_m_X7_init : x_mOK mX7_init 0 := ⟨x_tbm 131 rfl rfl, x_tbm 55 (by decide +kernel) rfl, ⟨by decide +kernel, by decide +kernel, by decide +kernel, by decide +kernel⟩, rfl, Nat.le_of_ble_eq_true rfl⟩
theorem x_c4 : x_cOK (6011, 2, mX7_init, 1) := ⟨x_m_X7_init, fun _ => by decide, ⟨x_tbm 129 (by decide +kernel) rfl, x_tbm 130 (by decide +kernel) rfl, rfl, rfl, rfl⟩⟩
set_option maxRecDepth 100000 in
theorem x_m_J9_min_7cf53 : x_mOK mJ9_min_7cf53 2 := ⟨x_tbm 140 rfl rfl, x_tbm 56 (by decide +kernel) rfl, ⟨by decide +kernel, by decide +kernel, by decide +kernel, by decide +kernel⟩, rfl, Nat.le_of_ble_eq_true rfl⟩
theorem x_c5 : x_cOK (8093, 1, mJ9_min_7cf53, 2) := ⟨x_m_J9_min_7cf53, fun _ => by decide, ⟨x_tbm 138 (by decide +kernel) rfl, x_tbm 139 (by decide +kernel) rfl, rfl⟩⟩
set_option maxRecDepth 100000 in
theorem x_m_X2_init : x_mOK mX2_init 0 := ⟨x_tbm 176 rfl rfl, x_tbm 58 (by decide +kernel) rfl, ⟨by decide +kernel, by decide +kernel, by decide +kernel, by decide +kernel⟩, rfl, Nat.le_of_ble_eq_true rfl⟩
theorem x_c6 : x_cOK (6020, 2, mX2_init, 1) := ⟨x_m_X2_init, fun _ => by decide, ⟨x_tbm 174 (by decide +kernel) rfl, x_tbm 175 (by decide +kernel) rfl, rfl, rfl, rfl⟩⟩
set_option maxRecDepth 100000 in
theorem x_m_X0_init : x_mOK mX0_init 0 := ⟨x_tbm 192 rfl rfl, x_tbm 59 (by decide +kernel) rfl, ⟨by decide +kernel, by decide +kernel, by decide +kernel, by decide +kernel⟩, rfl, Nat.le_of_ble_eq_true rfl⟩
theorem x_c7 : x_cOK (6027, 2, mX0_init, 1) := ⟨x_m_X0_init, fun _ => by decide, ⟨x_tbm 190 (by decide +kernel) rfl, x_tbm 191 (by decide +kernel) rfl, rfl, rfl, rfl⟩⟩
set_option maxRecDepth 100000 in
theorem x_m_X1_init : x_mOK mX1_init 0 := ⟨x_tbm 222 rfl rfl, x_tbm 60 (by decide +kernel) rfl, ⟨by decide +kernel, by decide +kernel, by decide +kernel, by decide +kernel⟩, rfl, Nat.le_of_ble_eq_true rfl⟩
theorem x_c8 : x_cOK (6034, 2, mX1_init, 1) := ⟨x_m_X1_init, fun _ => by decide, ⟨x_tbm 220 (by decide +kernel) rfl, x_tbm 221 (by decide +kernel) rfl, rfl, rfl, rfl⟩⟩
set_option maxRecDepth 100000 in
theorem x_m_X4_init : x_mOK mX4_init 0 := ⟨x_tbm 264 rfl rfl, x_tbm 61 (by decide +kernel) rfl, ⟨by decide +kernel, by decide +kernel, by decide +kernel, by decide +kernel⟩, rfl, Nat.le_of_ble_eq_true rfl⟩
theorem x_c9 : x_cOK (6041, 2, mX4_init, 1) := ⟨x_m_X4_init, fun _ => by decide, ⟨x_tbm 262 (by decide +kernel) rfl, x_tbm 263 (by decide +kernel) rfl, rfl, rfl, rfl⟩⟩
theorem x_c10 : x_cOK (8025, 2, mX6_init, 1) := ⟨x_m_X6_init, fun _ => by decide, ⟨x_tbm 330 (by decide +kernel) rfl, x_tbm 124 (by decide +kernel) rfl, rfl, rfl, rfl⟩⟩
set_option maxRecDepth 100000 in
theorem x_m_X8_errorPosition : x_mOK mX8_errorPosition 0 := ⟨x_tbm 347 rfl rfl, x_tbm 51 (by decide +kernel) rfl, ⟨by decide +kernel, by decide +kernel, by decide +kernel, by decide +kernel⟩, rfl, Nat.le_of_ble_eq_true rfl⟩
theorem x_c11 : x_cOK (10170, 0, mX8_errorPosition, 1) := ⟨x_m_X8_errorPosition, fun _ => by decide, ⟨x_tbm 344 (by decide +kernel) rfl, x_tbm 345 (by decide +kernel) rfl, x_tbm 346 (by decide +kernel) rfl, ⟨(RX8, TX8, 4), rfl, rfl⟩, rfl⟩⟩
set_option maxRecDepth 100000 in
theorem x_m_X8_phase : x_mOK mX8_phase 0 := ⟨x_tbm 351 rfl rfl, x_tbm 51 (by decide +kernel) rfl, ⟨by decide +kernel, by decide +kernel, by decide +kernel, by decide +kernel⟩, rfl, Nat.le_of_ble_eq_true rfl⟩
theorem x_c12 : x_cOK (10174, 0, mX8_phase, 1) := ⟨x_m_X8_phase, fun _ => by decide, ⟨x_tbm 348 (by decide +kernel) rfl, x_tbm 349 (by decide +kernel) rfl, x_tbm 350 (by decide +kernel) rfl, ⟨(RX8, TX8, 4), rfl, rfl⟩, rfl⟩⟩
set_option maxRecDepth 100000 in
theorem x_m_X8_plotCount : x_mOK mX8_plotCount 0 := ⟨x_tbm 355 rfl rfl, x_tbm 51 (by decide +kernel) rfl, ⟨by decide +kernel, by decide +kernel, by decide +kernel, by decide +kernel⟩, rfl, Nat.le_of_ble_eq_true rfl⟩
theorem x_c13 : x_cOK (10178, 0, mX8_plotCount, 1) := ⟨x_m_X8_plotCount, fun _ => by decide, ⟨x_tbm 352 (by decide +kernel) rfl, x_tbm 353 (by decide +kernel) rfl, x_tbm 354 (by decide +kernel) rfl, ⟨(RX8, TX8, 4), rfl, rfl⟩, rfl⟩⟩
set_option maxRecDepth 100000 in
theorem x_m_X8_factor : x_mOK mX8_factor 1 := ⟨x_tbm 359 rfl rfl, x_tbm 51 (by decide +kernel) rfl, ⟨by decide +kernel, by decide +kernel, by decide +kernel, by decide +kernel⟩, rfl, Nat.le_of_ble_eq_true rfl⟩
theorem x_c14 : x_cOK (10280, 0, mX8_factor, 2) := ⟨x_m_X8_factor, fun _ => by decide, ⟨x_tbm 356 (by decide +kernel) rfl, x_tbm 357 (by decide +kernel) rfl, x_tbm 358 (by decide +kernel) rfl, ⟨(RX8, TX8, 4), rfl, rfl⟩, rfl⟩⟩
set_option maxRecDepth 100000 in
theorem x_m_X4_factorDividend : x_mOK mX4_factorDividend 1 := ⟨x_tbm 363 rfl rfl, x_tbm 61 (by decide +kernel) rfl, ⟨by decide +kernel, by decide +kernel, by decide +kernel, by decide +kernel⟩, rfl, Nat.le_of_ble_eq_true rfl⟩
theorem x_c15 : x_cOK (8289, 0, mX4_factorDividend, 2) := ⟨x_m_X4_factorDividend, fun _ => by decide, ⟨x_tbm 360 (by decide +kernel) rfl, x_tbm 361 (by decide +kernel) rfl, x_tbm 362 (by decide +kernel) rfl, ⟨(RX4, TX4, 7), rfl, rfl⟩, rfl⟩⟩
set_option maxRecDepth 100000 in
theorem x_m_X4_needsFactor : x_mOK mX4_needsFactor 1 := ⟨x_tbm 367 rfl rfl, x_tbm 61 (by decide +kernel) rfl, ⟨by decide +kernel, by decide +kernel, by decide +kernel, by decide +kernel⟩, rfl, Nat.le_of_ble_eq_true rfl⟩
theorem x_c16 : x_cOK (4062, 0, mX4_needsFactor, 2) := ⟨x_m_X4_needsFactor, fun _ => by decide, ⟨x_tbm 364 (by decide +kernel) rfl, x_tbm 365 (by decide +kernel) rfl, x_tbm 366 (by decide +kernel) rfl, ⟨(RX4, TX4, 7), rfl, rfl⟩, rfl⟩⟩
set_option maxRecDepth 100000 in
theorem x_m_J9_abs_0f7a4 : x_mOK mJ9_abs_0f7a4 1 := ⟨x_tbm 370 rfl rfl, x_tbm 56 (by decide +kernel) rfl, ⟨by decide +kernel, by decide +kernel, by decide +kernel, by decide +kernel⟩, rfl, Nat.le_of_ble_eq_true rfl⟩
theorem x_c17 : x_cOK (4056, 1, mJ9_abs_0f7a4, 1) := ⟨x_m_J9_abs_0f7a4, fun _ => by decide, ⟨x_tbm 368 (by decide +kernel) rfl, x_tbm 369 (by decide +kernel) rfl, rfl⟩⟩
set_option maxRecDepth 100000 in
theorem x_m_X4_factorDivisor : x_mOK mX4_factorDivisor 1 := ⟨x_tbm 374 rfl rfl, x_tbm 61 (by decide +kernel) rfl, ⟨by decide +kernel, by decide +kernel, by decide +kernel, by decide +kernel⟩, rfl, Nat.le_of_ble_eq_true rfl⟩
theorem x_c18 : x_cOK (8292, 0, mX4_factorDivisor, 2) := ⟨x_m_X4_factorDivisor, fun _ => by decide, ⟨x_tbm 371 (by decide +kernel) rfl, x_tbm 372 (by decide +kernel) rfl, x_tbm 373 (by decide +kernel) rfl, ⟨(RX4, TX4, 7), rfl, rfl⟩, rfl⟩⟩
set_option maxRecDepth 100000 in
theorem x_m_X8_lowestTerms : x_mOK mX8_lowestTerms 3 := ⟨x_tbm 377 rfl rfl, x_tbm 51 (by decide +kernel) rfl, ⟨by decide +kernel, by decide +kernel, by decide +kernel, by decide +kernel⟩, rfl, Nat.le_of_ble_eq_true rfl⟩
theorem x_c19 : x_cOK (8117, 1, mX8_lowestTerms, 3) := ⟨x_m_X8_lowestTerms, fun _ => by decide, ⟨x_tbm 375 (by decide +kernel) rfl, x_tbm 376 (by decide +kernel) rfl, rfl⟩⟩
set_option maxRecDepth 100000 in
theorem x_m_X8_commonDivisor : x_mOK mX8_commonDivisor 2 := ⟨x_tbm 380 rfl rfl, x_tbm 51 (by decide +kernel) rfl, ⟨by decide +kernel, by decide +kernel, by decide +kernel, by decide +kernel⟩, rfl, Nat.le_of_ble_eq_true rfl⟩
theorem x_c20 : x_cOK (8357, 1, mX8_commonDivisor, 2) := ⟨x_m_X8_commonDivisor, fun _ => by decide, ⟨x_tbm 378 (by decide +kernel) rfl, x_tbm 379 (by decide +kernel) rfl, rfl⟩⟩
set_option maxRecDepth 100000 in
theorem x_m_X8_month : x_mOK mX8_month 0 := ⟨x_tbm 384 rfl rfl, x_tbm 51 (by decide +kernel) rfl, ⟨by decide +kernel, by decide +kernel, by decide +kernel, by decide +kernel⟩, rfl, Nat.le_of_ble_eq_true rfl⟩
theorem x_c21 : x_cOK (10285, 0, mX8_month, 1) := ⟨x_m_X8_month, fun _ => by decide, ⟨x_tbm 381 (by decide +kernel) rfl, x_tbm 382 (by decide +kernel) rfl, x_tbm 383 (by decide +kernel) rfl, ⟨(RX8, TX8, 4), rfl, rfl⟩, rfl⟩⟩
set_option maxRecDepth 100000 in
theorem x_m_X8_debt : x_mOK mX8_debt 0 := ⟨x_tbm 388 rfl rfl, x_tbm 51 (by decide +kernel) rfl, ⟨by decide +kernel, by decide +kernel, by decide +kernel, by decide +kernel⟩, rfl, Nat.le_of_ble_eq_true rfl⟩
theorem x_c22 : x_cOK (10298, 0, mX8_debt, 1) := ⟨x_m_X8_debt, fun _ => by decide, ⟨x_tbm 385 (by decide +kernel) rfl, x_tbm 386 (by decide +kernel) rfl, x_tbm 387 (by decide +kernel) rfl, ⟨(RX8, TX8, 4), rfl, rfl⟩, rfl⟩⟩
set_option maxRecDepth 100000 in
theorem x_m_X8_adjustment : x_mOK mX8_adjustment 0 := ⟨x_tbm 392 rfl rfl, x_tbm 51 (by decide +kernel) rfl, ⟨by decide +kernel, by decide +kernel, by decide +kernel, by decide +kernel⟩, rfl, Nat.le_of_ble_eq_true rfl⟩
theorem x_c23 : x_cOK (10305, 0, mX8_adjustment, 1) := ⟨x_m_X8_adjustment, fun _ => by decide, ⟨x_tbm 389 (by decide +kernel) rfl, x_tbm 390 (by decide +kernel) rfl, x_tbm 391 (by decide +kernel) rfl, ⟨(RX8, TX8, 4), rfl, rfl⟩, rfl⟩⟩
set_option maxRecDepth 100000 in
theorem x_m_X6_unbooked : x_mOK mX6_unbooked 0 := ⟨x_tbm 396 rfl rfl, x_tbm 54 (by decide +kernel) rfl, ⟨by decide +kernel, by decide +kernel, by decide +kernel, by decide +kernel⟩, rfl, Nat.le_of_ble_eq_true rfl⟩
theorem x_c24 : x_cOK (8309, 0, mX6_unbooked, 1) := ⟨x_m_X6_unbooked, fun _ => by decide, ⟨x_tbm 393 (by decide +kernel) rfl, x_tbm 394 (by decide +kernel) rfl, x_tbm 395 (by decide +kernel) rfl, ⟨(RX6, TX6, 6), rfl, rfl⟩, rfl⟩⟩
set_option maxRecDepth 100000 in
theorem x_m_X6_chargeOf : x_mOK mX6_chargeOf 1 := ⟨x_tbm 400 rfl rfl, x_tbm 54 (by decide +kernel) rfl, ⟨by decide +kernel, by decide +kernel, by decide +kernel, by decide +kernel⟩, rfl, Nat.le_of_ble_eq_true rfl⟩
theorem x_c25 : x_cOK (6136, 0, mX6_chargeOf, 2) := ⟨x_m_X6_chargeOf, fun _ => by decide, ⟨x_tbm 397 (by decide +kernel) rfl, x_tbm 398 (by decide +kernel) rfl, x_tbm 399 (by decide +kernel) rfl, ⟨(RX6, TX6, 6), rfl, rfl⟩, rfl⟩⟩
theorem x_c26 : x_cOK (6114, 0, mX4_factorDividend, 2) := ⟨x_m_X4_factorDividend, fun _ => by decide, ⟨x_tbm 401 (by decide +kernel) rfl, x_tbm 361 (by decide +kernel) rfl, x_tbm 362 (by decide +kernel) rfl, ⟨(RX4, TX4, 7), rfl, rfl⟩, rfl⟩⟩
theorem x_c27 : x_cOK (6118, 0, mX4_factorDivisor, 2) := ⟨x_m_X4_factorDivisor, fun _ => by decide, ⟨x_tbm 402 (by decide +kernel) rfl, x_tbm 372 (by decide +kernel) rfl, x_tbm 373 (by decide +kernel) rfl, ⟨(RX4, TX4, 7), rfl, rfl⟩, rfl⟩⟩
set_option maxRecDepth 100000 in
theorem x_m_X4_netSum : x_mOK mX4_netSum 3 := ⟨x_tbm 407 rfl rfl, x_tbm 61 (by decide +kernel) rfl, ⟨by decide +kernel, by decide +kernel, by decide +kernel, by decide +kernel⟩, rfl, Nat.le_of_ble_eq_true rfl⟩
theorem x_c28 : x_cOK (6123, 0, mX4_netSum, 4) := ⟨x_m_X4_netSum, fun _ => by decide, ⟨x_tbm 404 (by decide +kernel) rfl, x_tbm 405 (by decide +kernel) rfl, x_tbm 406 (by decide +kernel) rfl, ⟨(RX4, TX4, 7), rfl, rfl⟩, rfl⟩⟩
set_option maxRecDepth 100000 in
theorem x_m_X1_adjustedRate : x_mOK mX1_adjustedRate 3 := ⟨x_tbm 411 rfl rfl, x_tbm 60 (by decide +kernel) rfl, ⟨by decide +kernel, by decide +kernel, by decide +kernel, by decide +kernel⟩, rfl, Nat.le_of_ble_eq_true rfl⟩
theorem x_c29 : x_cOK (6127, 0, mX1_adjustedRate, 4) := ⟨x_m_X1_adjustedRate, fun _ => by decide, ⟨x_tbm 408 (by decide +kernel) rfl, x_tbm 409 (by decide +kernel) rfl, x_tbm 410 (by decide +kernel) rfl, ⟨(RX1, TX1, 8), rfl, rfl⟩, rfl⟩⟩
set_option maxRecDepth 100000 in
theorem x_m_X1_indexIn : x_mOK mX1_indexIn 3 := ⟨x_tbm 415 rfl rfl, x_tbm 60 (by decide +kernel) rfl, ⟨by decide +kernel, by decide +kernel, by decide +kernel, by decide +kernel⟩, rfl, Nat.le_of_ble_eq_true rfl⟩
theorem x_c30 : x_cOK (1063, 0, mX1_indexIn, 4) := ⟨x_m_X1_indexIn, fun _ => by decide, ⟨x_tbm 412 (by decide +kernel) rfl, x_tbm 413 (by decide +kernel) rfl, x_tbm 414 (by decide +kernel) rfl, ⟨(RX1, TX1, 8), rfl, rfl⟩, rfl⟩⟩
set_option maxRecDepth 100000 in
theorem x_m_J9_floorDiv_7cf53 : x_mOK mJ9_floorDiv_7cf53 2 := ⟨x_tbm 418 rfl rfl, x_tbm 56 (by decide +kernel) rfl, ⟨by decide +kernel, by decide +kernel, by decide +kernel, by decide +kernel⟩, rfl, Nat.le_of_ble_eq_true rfl⟩
theorem x_c31 : x_cOK (1070, 1, mJ9_floorDiv_7cf53, 2) := ⟨x_m_J9_floorDiv_7cf53, fun _ => by decide, ⟨x_tbm 416 (by decide +kernel) rfl, x_tbm 417 (by decide +kernel) rfl, rfl⟩⟩
set_option maxRecDepth 100000 in
theorem x_m_J9_max_7cf53 : x_mOK mJ9_max_7cf53 2 := ⟨x_tbm 421 rfl rfl, x_tbm 56 (by decide +kernel) rfl, ⟨by decide +kernel, by decide +kernel, by decide +kernel, by decide +kernel⟩, rfl, Nat.le_of_ble_eq_true rfl⟩
theorem x_c32 : x_cOK (1079, 1, mJ9_max_7cf53, 2) := ⟨x_m_J9_max_7cf53, fun _ => by decide, ⟨x_tbm 419 (by decide +kernel) rfl, x_tbm 420 (by decide +kernel) rfl, rfl⟩⟩
set_option maxRecDepth 100000 in
theorem x_m_L_append : x_mOK mL_append 7 := ⟨x_tbm 424 rfl rfl, x_tbm 50 (by decide +kernel) rfl, ⟨by decide +kernel, by decide +kernel, by decide +kernel, by decide +kernel⟩, rfl, Nat.le_of_ble_eq_true rfl⟩
theorem x_c33 : x_cOK (10157, 4, mL_append, 7) := ⟨x_m_L_append, fun _ => by decide, ⟨x_tbm 422 (by decide +kernel) rfl, x_tbm 423 (by decide +kernel) rfl, fun h => by cases h⟩⟩
set_option maxRecDepth 100000 in
theorem x_m_X8_append : x_mOK mX8_append 5 := ⟨x_tbm 429 rfl rfl, x_tbm 51 (by decide +kernel) rfl, ⟨by decide +kernel, by decide +kernel, by decide +kernel, by decide +kernel⟩, rfl, Nat.le_of_ble_eq_true rfl⟩
theorem x_c34 : x_cOK (10007, 0, mX8_append, 6) := ⟨x_m_X8_append, fun _ => by decide, ⟨x_tbm 426 (by decide +kernel) rfl, x_tbm 427 (by decide +kernel) rfl, x_tbm 428 (by decide +kernel) rfl, ⟨(RX8, TX8, 4), rfl, rfl⟩, rfl⟩⟩
set_option maxRecDepth 100000 in
theorem x_m_X5_hasRoom : x_mOK mX5_hasRoom 0 := ⟨x_tbm 433 rfl rfl, x_tbm 52 (by decide +kernel) rfl, ⟨by decide +kernel, by decide +kernel, by decide +kernel, by decide +kernel⟩, rfl, Nat.le_of_ble_eq_true rfl⟩
theorem x_c35 : x_cOK (8033, 0, mX5_hasRoom, 1) := ⟨x_m_X5_hasRoom, fun _ => by decide, ⟨x_tbm 430 (by decide +kernel) rfl, x_tbm 431 (by decide +kernel) rfl, x_tbm 432 (by decide +kernel) rfl, ⟨(RX5, TX5, 7), rfl, rfl⟩, rfl⟩⟩
set_option maxRecDepth 100000 in
theorem x_m_X8_requireState : x_mOK mX8_requireState 1 := ⟨x_tbm 436 rfl rfl, x_tbm 51 (by decide +kernel) rfl, ⟨by decide +kernel, by decide +kernel, by decide +kernel, by decide +kernel⟩, rfl, Nat.le_of_ble_eq_true rfl⟩
theorem x_c36 : x_cOK (8037, 1, mX8_requireState, 1) := ⟨x_m_X8_requireState, fun _ => by decide, ⟨x_tbm 434 (by decide +kernel) rfl, x_tbm 435 (by decide +kernel) rfl, rfl⟩⟩
set_option maxRecDepth 100000 in
theorem x_m_X5_take : x_mOK mX5_take 1 := ⟨x_tbm 508 rfl rfl, x_tbm 52 (by decide +kernel) rfl, ⟨by decide +kernel, by decide +kernel, by decide +kernel, by decide +kernel⟩, rfl, Nat.le_of_ble_eq_true rfl⟩
theorem x_c37 : x_cOK (8041, 0, mX5_take, 2) := ⟨x_m_X5_take, fun _ => by decide, ⟨x_tbm 505 (by decide +kernel) rfl, x_tbm 506 (by decide +kernel) rfl, x_tbm 507 (by decide +kernel) rfl, ⟨(RX5, TX5, 7), rfl, rfl⟩, rfl⟩⟩
set_option maxRecDepth 100000 in
theorem x_m_L_load : x_mOK mL_load 3 := ⟨x_tbm 511 rfl rfl, x_tbm 50 (by decide +kernel) rfl, ⟨by decide +kernel, by decide +kernel, by decide +kernel, by decide +kernel⟩, rfl, Nat.le_of_ble_eq_true rfl⟩
theorem x_c38 : x_cOK (10166, 4, mL_load, 3) := ⟨x_m_L_load, fun _ => by decide, ⟨x_tbm 509 (by decide +kernel) rfl, x_tbm 510 (by decide +kernel) rfl, fun h => by cases h⟩⟩
set_option maxRecDepth 100000 in
theorem x_m_X8_load : x_mOK mX8_load 1 := ⟨x_tbm 516 rfl rfl, x_tbm 51 (by decide +kernel) rfl, ⟨by decide +kernel, by decide +kernel, by decide +kernel, by decide +kernel⟩, rfl, Nat.le_of_ble_eq_true rfl⟩
theorem x_c39 : x_cOK (10015, 0, mX8_load, 2) := ⟨x_m_X8_load, fun _ => by decide, ⟨x_tbm 513 (by decide +kernel) rfl, x_tbm 514 (by decide +kernel) rfl, x_tbm 515 (by decide +kernel) rfl, ⟨(RX8, TX8, 4), rfl, rfl⟩, rfl⟩⟩
set_option maxRecDepth 100000 in
theorem x_m_X8_isIn : x_mOK mX8_isIn 3 := ⟨x_tbm 519 rfl rfl, x_tbm 51 (by decide +kernel) rfl, ⟨by decide +kernel, by decide +kernel, by decide +kernel, by decide +kernel⟩, rfl, Nat.le_of_ble_eq_true rfl⟩
theorem x_c40 : x_cOK (8049, 1, mX8_isIn, 3) := ⟨x_m_X8_isIn, fun _ => by decide, ⟨x_tbm 517 (by decide +kernel) rfl, x_tbm 518 (by decide +kernel) rfl, rfl⟩⟩
set_option maxRecDepth 100000 in
theorem x_m_X8_requireArgument : x_mOK mX8_requireArgument 1 := ⟨x_tbm 522 rfl rfl, x_tbm 51 (by decide +kernel) rfl, ⟨by decide +kernel, by decide +kernel, by decide +kernel, by decide +kernel⟩, rfl, Nat.le_of_ble_eq_true rfl⟩
theorem x_c41 : x_cOK (8053, 1, mX8_requireArgument, 1) := ⟨x_m_X8_requireArgument, fun _ => by decide, ⟨x_tbm 520 (by decide +kernel) rfl, x_tbm 521 (by decide +kernel) rfl, rfl⟩⟩
set_option maxRecDepth 100000 in
theorem x_m_X5_readInto : x_mOK mX5_readInto 2 := ⟨x_tbm 542 rfl rfl, x_tbm 52 (by decide +kernel) rfl, ⟨by decide +kernel, by decide +kernel, by decide +kernel, by decide +kernel⟩, rfl, Nat.le_of_ble_eq_true rfl⟩
theorem x_c42 : x_cOK (8056, 0, mX5_readInto, 3) := ⟨x_m_X5_readInto, fun _ => by decide, ⟨x_tbm 539 (by decide +kernel) rfl, x_tbm 540 (by decide +kernel) rfl, x_tbm 541 (by decide +kernel) rfl, ⟨(RX5, TX5, 7), rfl, rfl⟩, rfl⟩⟩
set_option maxRecDepth 100000 in
theorem x_m_X6_clear : x_mOK mX6_clear 0 := ⟨x_tbm 546 rfl rfl, x_tbm 54 (by decide +kernel) rfl, ⟨by decide +kernel, by decide +kernel, by decide +kernel, by decide +kernel⟩, rfl, Nat.le_of_ble_eq_true rfl⟩
theorem x_c43 : x_cOK (5031, 0, mX6_clear, 1) := ⟨x_m_X6_clear, fun _ => by decide, ⟨x_tbm 543 (by decide +kernel) rfl, x_tbm 544 (by decide +kernel) rfl, x_tbm 545 (by decide +kernel) rfl, ⟨(RX6, TX6, 6), rfl, rfl⟩, rfl⟩⟩
set_option maxRecDepth 100000 in
theorem x_m_X7_clear : x_mOK mX7_clear 0 := ⟨x_tbm 550 rfl rfl, x_tbm 55 (by decide +kernel) rfl, ⟨by decide +kernel, by decide +kernel, by decide +kernel, by decide +kernel⟩, rfl, Nat.le_of_ble_eq_true rfl⟩
theorem x_c44 : x_cOK (6050, 0, mX7_clear, 1) := ⟨x_m_X7_clear, fun _ => by decide, ⟨x_tbm 547 (by decide +kernel) rfl, x_tbm 548 (by decide +kernel) rfl, x_tbm 549 (by decide +kernel) rfl, ⟨(RX7, TX7, 4), rfl, rfl⟩, rfl⟩⟩
set_option maxRecDepth 100000 in
theorem x_m_J7_fill_53178 : x_mOK mJ7_fill_53178 2 := ⟨x_tbm 553 rfl rfl, x_tbm 68 (by decide +kernel) rfl, ⟨by decide +kernel, by decide +kernel, by decide +kernel, by decide +kernel⟩, rfl, Nat.le_of_ble_eq_true rfl⟩
theorem x_c45 : x_cOK (7032, 1, mJ7_fill_53178, 2) := ⟨x_m_J7_fill_53178, fun _ => by decide, ⟨x_tbm 551 (by decide +kernel) rfl, x_tbm 552 (by decide +kernel) rfl, rfl⟩⟩
set_option maxRecDepth 100000 in
theorem x_m_X2_clear : x_mOK mX2_clear 0 := ⟨x_tbm 557 rfl rfl, x_tbm 58 (by decide +kernel) rfl, ⟨by decide +kernel, by decide +kernel, by decide +kernel, by decide +kernel⟩, rfl, Nat.le_of_ble_eq_true rfl⟩
theorem x_c46 : x_cOK (6053, 0, mX2_clear, 1) := ⟨x_m_X2_clear, fun _ => by decide, ⟨x_tbm 554 (by decide +kernel) rfl, x_tbm 555 (by decide +kernel) rfl, x_tbm 556 (by decide +kernel) rfl, ⟨(RX2, TX2, 2), rfl, rfl⟩, rfl⟩⟩
theorem x_c47 : x_cOK (2019, 1, mJ7_fill_53178, 2) := ⟨x_m_J7_fill_53178, fun _ => by decide, ⟨x_tbm 558 (by decide +kernel) rfl, x_tbm 552 (by decide +kernel) rfl, rfl⟩⟩
set_option maxRecDepth 100000 in
theorem x_m_X0_clear : x_mOK mX0_clear 0 := ⟨x_tbm 562 rfl rfl, x_tbm 59 (by decide +kernel) rfl, ⟨by decide +kernel, by decide +kernel, by decide +kernel, by decide +kernel⟩, rfl, Nat.le_of_ble_eq_true rfl⟩
theorem x_c48 : x_cOK (6054, 0, mX0_clear, 1) := ⟨x_m_X0_clear, fun _ => by decide, ⟨x_tbm 559 (by decide +kernel) rfl, x_tbm 560 (by decide +kernel) rfl, x_tbm 561 (by decide +kernel) rfl, ⟨(RX0, TX0, 6), rfl, rfl⟩, rfl⟩⟩
theorem x_c49 : x_cOK (28, 1, mJ7_fill_53178, 2) := ⟨x_m_J7_fill_53178, fun _ => by decide, ⟨x_tbm 563 (by decide +kernel) rfl, x_tbm 552 (by decide +kernel) rfl, rfl⟩⟩
set_option maxRecDepth 100000 in
theorem x_m_X1_clear : x_mOK mX1_clear 0 := ⟨x_tbm 567 rfl rfl, x_tbm 60 (by decide +kernel) rfl, ⟨by decide +kernel, by decide +kernel, by decide +kernel, by decide +kernel⟩, rfl, Nat.le_of_ble_eq_true rfl⟩
theorem x_c50 : x_cOK (6055, 0, mX1_clear, 1) := ⟨x_m_X1_clear, fun _ => by decide, ⟨x_tbm 564 (by decide +kernel) rfl, x_tbm 565 (by decide +kernel) rfl, x_tbm 566 (by decide +kernel) rfl, ⟨(RX1, TX1, 8), rfl, rfl⟩, rfl⟩⟩
theorem x_c51 : x_cOK (1029, 1, mJ7_fill_53178, 2) := ⟨x_m_J7_fill_53178, fun _ => by decide, ⟨x_tbm 568 (by decide +kernel) rfl, x_tbm 552 (by decide +kernel) rfl, rfl⟩⟩
set_option maxRecDepth 100000 in
theorem x_m_J7_fill_d0a16 : x_mOK mJ7_fill_d0a16 2 := ⟨x_tbm 571 rfl rfl, x_tbm 68 (by decide +kernel) rfl, ⟨by decide +kernel, by decide +kernel, by decide +kernel, by decide +kernel⟩, rfl, Nat.le_of_ble_eq_true rfl⟩
theorem x_c52 : x_cOK (1035, 1, mJ7_fill_d0a16, 2) := ⟨x_m_J7_fill_d0a16, fun _ => by decide, ⟨x_tbm 569 (by decide +kernel) rfl, x_tbm 570 (by decide +kernel) rfl, rfl⟩⟩
set_option maxRecDepth 100000 in
theorem x_m_X4_clear : x_mOK mX4_clear 0 := ⟨x_tbm 575 rfl rfl, x_tbm 61 (by decide +kernel) rfl, ⟨by decide +kernel, by decide +kernel, by decide +kernel, by decide +kernel⟩, rfl, Nat.le_of_ble_eq_true rfl⟩
theorem x_c53 : x_cOK (6056, 0, mX4_clear, 1) := ⟨x_m_X4_clear, fun _ => by decide, ⟨x_tbm 572 (by decide +kernel) rfl, x_tbm 573 (by decide +kernel) rfl, x_tbm 574 (by decide +kernel) rfl, ⟨(RX4, TX4, 7), rfl, rfl⟩, rfl⟩⟩
set_option maxRecDepth 100000 in
theorem x_m_X5_readNumbers : x_mOK mX5_readNumbers 1 := ⟨x_tbm 579 rfl rfl, x_tbm 52 (by decide +kernel) rfl, ⟨by decide +kernel, by decide +kernel, by decide +kernel, by decide +kernel⟩, rfl, Nat.le_of_ble_eq_true rfl⟩
theorem x_c54 : x_cOK (5040, 0, mX5_readNumbers, 2) := ⟨x_m_X5_readNumbers, fun _ => by decide, ⟨x_tbm 576 (by decide +kernel) rfl, x_tbm 577 (by decide +kernel) rfl, x_tbm 578 (by decide +kernel) rfl, ⟨(RX5, TX5, 7), rfl, rfl⟩, rfl⟩⟩
set_option maxRecDepth 100000 in
theorem x_m_X5_readWord : x_mOK mX5_readWord 1 := ⟨x_tbm 584 rfl rfl, x_tbm 52 (by decide +kernel) rfl, ⟨by decide +kernel, by decide +kernel, by decide +kernel, by decide +kernel⟩, rfl, Nat.le_of_ble_eq_true rfl⟩
theorem x_c55 : x_cOK (5066, 0, mX5_readWord, 2) := ⟨x_m_X5_readWord, fun _ => by decide, ⟨x_tbm 581 (by decide +kernel) rfl, x_tbm 582 (by decide +kernel) rfl, x_tbm 583 (by decide +kernel) rfl, ⟨(RX5, TX5, 7), rfl, rfl⟩, rfl⟩⟩
set_option maxRecDepth 100000 in
theorem x_m_X5_startOfToken : x_mOK mX5_startOfToken 0 := ⟨x_tbm 588 rfl rfl, x_tbm 52 (by decide +kernel) rfl, ⟨by decide +kernel, by decide +kernel, by decide +kernel, by decide +kernel⟩, rfl, Nat.le_of_ble_eq_true rfl⟩
theorem x_c56 : x_cOK (5095, 0, mX5_startOfToken, 1) := ⟨x_m_X5_startOfToken, fun _ => by decide, ⟨x_tbm 585 (by decide +kernel) rfl, x_tbm 586 (by decide +kernel) rfl, x_tbm 587 (by decide +kernel) rfl, ⟨(RX5, TX5, 7), rfl, rfl⟩, rfl⟩⟩
set_option maxRecDepth 100000 in
theorem x_m_X5_byteAt : x_mOK mX5_byteAt 1 := ⟨x_tbm 592 rfl rfl, x_tbm 52 (by decide +kernel) rfl, ⟨by decide +kernel, by decide +kernel, by decide +kernel, by decide +kernel⟩, rfl, Nat.le_of_ble_eq_true rfl⟩
theorem x_c57 : x_cOK (5127, 0, mX5_byteAt, 2) := ⟨x_m_X5_byteAt, fun _ => by decide, ⟨x_tbm 589 (by decide +kernel) rfl, x_tbm 590 (by decide +kernel) rfl, x_tbm 591 (by decide +kernel) rfl, ⟨(RX5, TX5, 7), rfl, rfl⟩, rfl⟩⟩
set_option maxRecDepth 100000 in
theorem x_m_X5_isLetter : x_mOK mX5_isLetter 1 := ⟨x_tbm 644 rfl rfl, x_tbm 52 (by decide +kernel) rfl, ⟨by decide +kernel, by decide +kernel, by decide +kernel, by decide +kernel⟩, rfl, Nat.le_of_ble_eq_true rfl⟩
theorem x_c58 : x_cOK (5135, 0, mX5_isLetter, 2) := ⟨x_m_X5_isLetter, fun _ => by decide, ⟨x_tbm 641 (by decide +kernel) rfl, x_tbm 642 (by decide +kernel) rfl, x_tbm 643 (by decide +kernel) rfl, ⟨(RX5, TX5, 7), rfl, rfl⟩, rfl⟩⟩
set_option maxRecDepth 100000 in
theorem x_m_X5_fail : x_mOK mX5_fail 2 := ⟨x_tbm 648 rfl rfl, x_tbm 52 (by decide +kernel) rfl, ⟨by decide +kernel, by decide +kernel, by decide +kernel, by decide +kernel⟩, rfl, Nat.le_of_ble_eq_true rfl⟩
theorem x_c59 : x_cOK (5070, 0, mX5_fail, 3) := ⟨x_m_X5_fail, fun _ => by decide, ⟨x_tbm 645 (by decide +kernel) rfl, x_tbm 646 (by decide +kernel) rfl, x_tbm 647 (by decide +kernel) rfl, ⟨(RX5, TX5, 7), rfl, rfl⟩, rfl⟩⟩
set_option maxRecDepth 100000 in
theorem x_m_X5_readNumber : x_mOK mX5_readNumber 2 := ⟨x_tbm 655 rfl rfl, x_tbm 52 (by decide +kernel) rfl, ⟨by decide +kernel, by decide +kernel, by decide +kernel, by decide +kernel⟩, rfl, Nat.le_of_ble_eq_true rfl⟩
theorem x_c60 : x_cOK (5081, 0, mX5_readNumber, 3) := ⟨x_m_X5_readNumber, fun _ => by decide, ⟨x_tbm 652 (by decide +kernel) rfl, x_tbm 653 (by decide +kernel) rfl, x_tbm 654 (by decide +kernel) rfl, ⟨(RX5, TX5, 7), rfl, rfl⟩, rfl⟩⟩
set_option maxRecDepth 100000 in
theorem x_m_X5_isDigit : x_mOK mX5_isDigit 1 := ⟨x_tbm 659 rfl rfl, x_tbm 52 (by decide +kernel) rfl, ⟨by decide +kernel, by decide +kernel, by decide +kernel, by decide +kernel⟩, rfl, Nat.le_of_ble_eq_true rfl⟩
theorem x_c61 : x_cOK (5139, 0, mX5_isDigit, 2) := ⟨x_m_X5_isDigit, fun _ => by decide, ⟨x_tbm 656 (by decide +kernel) rfl, x_tbm 657 (by decide +kernel) rfl, x_tbm 658 (by decide +kernel) rfl, ⟨(RX5, TX5, 7), rfl, rfl⟩, rfl⟩⟩
theorem x_c62 : x_cOK (5111, 1, mJ9_min_7cf53, 2) := ⟨x_m_J9_min_7cf53, fun _ => by decide, ⟨x_tbm 661 (by decide +kernel) rfl, x_tbm 139 (by decide +kernel) rfl, rfl⟩⟩
set_option maxRecDepth 100000 in
theorem x_m_X5_readSemicolon : x_mOK mX5_readSemicolon 0 := ⟨x_tbm 665 rfl rfl, x_tbm 52 (by decide +kernel) rfl, ⟨by decide +kernel, by decide +kernel, by decide +kernel, by decide +kernel⟩, rfl, Nat.le_of_ble_eq_true rfl⟩
theorem x_c63 : x_cOK (5092, 0, mX5_readSemicolon, 1) := ⟨x_m_X5_readSemicolon, fun _ => by decide, ⟨x_tbm 662 (by decide +kernel) rfl, x_tbm 663 (by decide +kernel) rfl, x_tbm 664 (by decide +kernel) rfl, ⟨(RX5, TX5, 7), rfl, rfl⟩, rfl⟩⟩
set_option maxRecDepth 100000 in
theorem x_m_X5_readSpecies : x_mOK mX5_readSpecies 1 := ⟨x_tbm 669 rfl rfl, x_tbm 52 (by decide +kernel) rfl, ⟨by decide +kernel, by decide +kernel, by decide +kernel, by decide +kernel⟩, rfl, Nat.le_of_ble_eq_true rfl⟩
theorem x_c64 : x_cOK (5044, 0, mX5_readSpecies, 2) := ⟨x_m_X5_readSpecies, fun _ => by decide, ⟨x_tbm 666 (by decide +kernel) rfl, x_tbm 667 (by decide +kernel) rfl, x_tbm 668 (by decide +kernel) rfl, ⟨(RX5, TX5, 7), rfl, rfl⟩, rfl⟩⟩
set_option maxRecDepth 100000 in
theorem x_m_X5_readPlots : x_mOK mX5_readPlots 2 := ⟨x_tbm 675 rfl rfl, x_tbm 52 (by decide +kernel) rfl, ⟨by decide +kernel, by decide +kernel, by decide +kernel, by decide +kernel⟩, rfl, Nat.le_of_ble_eq_true rfl⟩
theorem x_c65 : x_cOK (5051, 0, mX5_readPlots, 3) := ⟨x_m_X5_readPlots, fun _ => by decide, ⟨x_tbm 672 (by decide +kernel) rfl, x_tbm 673 (by decide +kernel) rfl, x_tbm 674 (by decide +kernel) rfl, ⟨(RX5, TX5, 7), rfl, rfl⟩, rfl⟩⟩
set_option maxRecDepth 100000 in
theorem x_m_X5_readEnd : x_mOK mX5_readEnd 0 := ⟨x_tbm 680 rfl rfl, x_tbm 52 (by decide +kernel) rfl, ⟨by decide +kernel, by decide +kernel, by decide +kernel, by decide +kernel⟩, rfl, Nat.le_of_ble_eq_true rfl⟩
theorem x_c66 : x_cOK (5055, 0, mX5_readEnd, 1) := ⟨x_m_X5_readEnd, fun _ => by decide, ⟨x_tbm 677 (by decide +kernel) rfl, x_tbm 678 (by decide +kernel) rfl, x_tbm 679 (by decide +kernel) rfl, ⟨(RX5, TX5, 7), rfl, rfl⟩, rfl⟩⟩
set_option maxRecDepth 100000 in
theorem x_m_X3_keep : x_mOK mX3_keep 1 := ⟨x_tbm 684 rfl rfl, x_tbm 53 (by decide +kernel) rfl, ⟨by decide +kernel, by decide +kernel, by decide +kernel, by decide +kernel⟩, rfl, Nat.le_of_ble_eq_true rfl⟩
theorem x_c67 : x_cOK (8060, 0, mX3_keep, 2) := ⟨x_m_X3_keep, fun _ => by decide, ⟨x_tbm 681 (by decide +kernel) rfl, x_tbm 682 (by decide +kernel) rfl, x_tbm 683 (by decide +kernel) rfl, ⟨(RX3, TX3, 3), rfl, rfl⟩, rfl⟩⟩
set_option maxRecDepth 100000 in
theorem x_m_X6_copyFrom : x_mOK mX6_copyFrom 1 := ⟨x_tbm 688 rfl rfl, x_tbm 54 (by decide +kernel) rfl, ⟨by decide +kernel, by decide +kernel, by decide +kernel, by decide +kernel⟩, rfl, Nat.le_of_ble_eq_true rfl⟩
theorem x_c68 : x_cOK (3022, 0, mX6_copyFrom, 2) := ⟨x_m_X6_copyFrom, fun _ => by decide, ⟨x_tbm 685 (by decide +kernel) rfl, x_tbm 686 (by decide +kernel) rfl, x_tbm 687 (by decide +kernel) rfl, ⟨(RX6, TX6, 6), rfl, rfl⟩, rfl⟩⟩
set_option maxRecDepth 100000 in
theorem x_m_X7_copyFrom : x_mOK mX7_copyFrom 1 := ⟨x_tbm 692 rfl rfl, x_tbm 55 (by decide +kernel) rfl, ⟨by decide +kernel, by decide +kernel, by decide +kernel, by decide +kernel⟩, rfl, Nat.le_of_ble_eq_true rfl⟩
theorem x_c69 : x_cOK (6057, 0, mX7_copyFrom, 2) := ⟨x_m_X7_copyFrom, fun _ => by decide, ⟨x_tbm 689 (by decide +kernel) rfl, x_tbm 690 (by decide +kernel) rfl, x_tbm 691 (by decide +kernel) rfl, ⟨(RX7, TX7, 4), rfl, rfl⟩, rfl⟩⟩
set_option maxRecDepth 100000 in
theorem x_m_X2_copyFrom : x_mOK mX2_copyFrom 1 := ⟨x_tbm 696 rfl rfl, x_tbm 58 (by decide +kernel) rfl, ⟨by decide +kernel, by decide +kernel, by decide +kernel, by decide +kernel⟩, rfl, Nat.le_of_ble_eq_true rfl⟩
theorem x_c70 : x_cOK (6061, 0, mX2_copyFrom, 2) := ⟨x_m_X2_copyFrom, fun _ => by decide, ⟨x_tbm 693 (by decide +kernel) rfl, x_tbm 694 (by decide +kernel) rfl, x_tbm 695 (by decide +kernel) rfl, ⟨(RX2, TX2, 2), rfl, rfl⟩, rfl⟩⟩
set_option maxRecDepth 100000 in
theorem x_m_X0_copyFrom : x_mOK mX0_copyFrom 1 := ⟨x_tbm 701 rfl rfl, x_tbm 59 (by decide +kernel) rfl, ⟨by decide +kernel, by decide +kernel, by decide +kernel, by decide +kernel⟩, rfl, Nat.le_of_ble_eq_true rfl⟩
theorem x_c71 : x_cOK (6064, 0, mX0_copyFrom, 2) := ⟨x_m_X0_copyFrom, fun _ => by decide, ⟨x_tbm 698 (by decide +kernel) rfl, x_tbm 699 (by decide +kernel) rfl, x_tbm 700 (by decide +kernel) rfl, ⟨(RX0, TX0, 6), rfl, rfl⟩, rfl⟩⟩
set_option maxRecDepth 100000 in
theorem x_m_X1_copyFrom : x_mOK mX1_copyFrom 1 := ⟨x_tbm 706 rfl rfl, x_tbm 60 (by decide +kernel) rfl, ⟨by decide +kernel, by decide +kernel, by decide +kernel, by decide +kernel⟩, rfl, Nat.le_of_ble_eq_true rfl⟩
theorem x_c72 : x_cOK (6067, 0, mX1_copyFrom, 2) := ⟨x_m_X1_copyFrom, fun _ => by decide, ⟨x_tbm 703 (by decide +kernel) rfl, x_tbm 704 (by decide +kernel) rfl, x_tbm 705 (by decide +kernel) rfl, ⟨(RX1, TX1, 8), rfl, rfl⟩, rfl⟩⟩
set_option maxRecDepth 100000 in
theorem x_m_X4_copyFrom : x_mOK mX4_copyFrom 1 := ⟨x_tbm 712 rfl rfl, x_tbm 61 (by decide +kernel) rfl, ⟨by decide +kernel, by decide +kernel, by decide +kernel, by decide +kernel⟩, rfl, Nat.le_of_ble_eq_true rfl⟩
theorem x_c73 : x_cOK (6070, 0, mX4_copyFrom, 2) := ⟨x_m_X4_copyFrom, fun _ => by decide, ⟨x_tbm 709 (by decide +kernel) rfl, x_tbm 710 (by decide +kernel) rfl, x_tbm 711 (by decide +kernel) rfl, ⟨(RX4, TX4, 7), rfl, rfl⟩, rfl⟩⟩
theorem x_c74 : x_cOK (3029, 1, mJ9_min_7cf53, 2) := ⟨x_m_J9_min_7cf53, fun _ => by decide, ⟨x_tbm 714 (by decide +kernel) rfl, x_tbm 139 (by decide +kernel) rfl, rfl⟩⟩
set_option maxRecDepth 100000 in
theorem x_m_L_addPlot : x_mOK mL_addPlot 8 := ⟨x_tbm 717 rfl rfl, x_tbm 50 (by decide +kernel) rfl, ⟨by decide +kernel, by decide +kernel, by decide +kernel, by decide +kernel⟩, rfl, Nat.le_of_ble_eq_true rfl⟩
theorem x_c75 : x_cOK (10182, 4, mL_addPlot, 8) := ⟨x_m_L_addPlot, fun _ => by decide, ⟨x_tbm 715 (by decide +kernel) rfl, x_tbm 716 (by decide +kernel) rfl, fun h => by cases h⟩⟩
set_option maxRecDepth 100000 in
theorem x_m_X8_addPlot : x_mOK mX8_addPlot 6 := ⟨x_tbm 721 rfl rfl, x_tbm 51 (by decide +kernel) rfl, ⟨by decide +kernel, by decide +kernel, by decide +kernel, by decide +kernel⟩, rfl, Nat.le_of_ble_eq_true rfl⟩
theorem x_c76 : x_cOK (10021, 0, mX8_addPlot, 7) := ⟨x_m_X8_addPlot, fun _ => by decide, ⟨x_tbm 718 (by decide +kernel) rfl, x_tbm 719 (by decide +kernel) rfl, x_tbm 720 (by decide +kernel) rfl, ⟨(RX8, TX8, 4), rfl, rfl⟩, rfl⟩⟩
set_option maxRecDepth 100000 in
theorem x_m_X8_fitsPlot : x_mOK mX8_fitsPlot 2 := ⟨x_tbm 725 rfl rfl, x_tbm 51 (by decide +kernel) rfl, ⟨by decide +kernel, by decide +kernel, by decide +kernel, by decide +kernel⟩, rfl, Nat.le_of_ble_eq_true rfl⟩
theorem x_c77 : x_cOK (8079, 0, mX8_fitsPlot, 3) := ⟨x_m_X8_fitsPlot, fun _ => by decide, ⟨x_tbm 722 (by decide +kernel) rfl, x_tbm 724 (by decide +kernel) rfl, x_tbm 1 (by decide +kernel) rfl, ⟨(RX8, TX8, 4), rfl, rfl⟩, rfl⟩⟩
set_option maxRecDepth 100000 in
theorem x_m_X8_isSpecies : x_mOK mX8_isSpecies 1 := ⟨x_tbm 729 rfl rfl, x_tbm 51 (by decide +kernel) rfl, ⟨by decide +kernel, by decide +kernel, by decide +kernel, by decide +kernel⟩, rfl, Nat.le_of_ble_eq_true rfl⟩
theorem x_c78 : x_cOK (8161, 0, mX8_isSpecies, 2) := ⟨x_m_X8_isSpecies, fun _ => by decide, ⟨x_tbm 726 (by decide +kernel) rfl, x_tbm 728 (by decide +kernel) rfl, x_tbm 2 (by decide +kernel) rfl, ⟨(RX8, TX8, 4), rfl, rfl⟩, rfl⟩⟩
set_option maxRecDepth 100000 in
theorem x_m_X2_add : x_mOK mX2_add 6 := ⟨x_tbm 733 rfl rfl, x_tbm 58 (by decide +kernel) rfl, ⟨by decide +kernel, by decide +kernel, by decide +kernel, by decide +kernel⟩, rfl, Nat.le_of_ble_eq_true rfl⟩
theorem x_c79 : x_cOK (8099, 0, mX2_add, 7) := ⟨x_m_X2_add, fun _ => by decide, ⟨x_tbm 730 (by decide +kernel) rfl, x_tbm 731 (by decide +kernel) rfl, x_tbm 732 (by decide +kernel) rfl, ⟨(RX2, TX2, 2), rfl, rfl⟩, rfl⟩⟩
set_option maxRecDepth 100000 in
theorem x_m_L_removePlot : x_mOK mL_removePlot 3 := ⟨x_tbm 736 rfl rfl, x_tbm 50 (by decide +kernel) rfl, ⟨by decide +kernel, by decide +kernel, by decide +kernel, by decide +kernel⟩, rfl, Nat.le_of_ble_eq_true rfl⟩
theorem x_c80 : x_cOK (10186, 4, mL_removePlot, 3) := ⟨x_m_L_removePlot, fun _ => by decide, ⟨x_tbm 734 (by decide +kernel) rfl, x_tbm 735 (by decide +kernel) rfl, fun h => by cases h⟩⟩
set_option maxRecDepth 100000 in
theorem x_m_X8_removePlot : x_mOK mX8_removePlot 1 := ⟨x_tbm 741 rfl rfl, x_tbm 51 (by decide +kernel) rfl, ⟨by decide +kernel, by decide +kernel, by decide +kernel, by decide +kernel⟩, rfl, Nat.le_of_ble_eq_true rfl⟩
theorem x_c81 : x_cOK (10025, 0, mX8_removePlot, 2) := ⟨x_m_X8_removePlot, fun _ => by decide, ⟨x_tbm 738 (by decide +kernel) rfl, x_tbm 739 (by decide +kernel) rfl, x_tbm 740 (by decide +kernel) rfl, ⟨(RX8, TX8, 4), rfl, rfl⟩, rfl⟩⟩
set_option maxRecDepth 100000 in
theorem x_m_X8_requireExisting : x_mOK mX8_requireExisting 1 := ⟨x_tbm 744 rfl rfl, x_tbm 51 (by decide +kernel) rfl, ⟨by decide +kernel, by decide +kernel, by decide +kernel, by decide +kernel⟩, rfl, Nat.le_of_ble_eq_true rfl⟩
theorem x_c82 : x_cOK (8103, 1, mX8_requireExisting, 1) := ⟨x_m_X8_requireExisting, fun _ => by decide, ⟨x_tbm 742 (by decide +kernel) rfl, x_tbm 743 (by decide +kernel) rfl, rfl⟩⟩
set_option maxRecDepth 100000 in
theorem x_m_X2_remove : x_mOK mX2_remove 1 := ⟨x_tbm 764 rfl rfl, x_tbm 58 (by decide +kernel) rfl, ⟨by decide +kernel, by decide +kernel, by decide +kernel, by decide +kernel⟩, rfl, Nat.le_of_ble_eq_true rfl⟩
theorem x_c83 : x_cOK (8106, 0, mX2_remove, 2) := ⟨x_m_X2_remove, fun _ => by decide, ⟨x_tbm 761 (by decide +kernel) rfl, x_tbm 762 (by decide +kernel) rfl, x_tbm 763 (by decide +kernel) rfl, ⟨(RX2, TX2, 2), rfl, rfl⟩, rfl⟩⟩
set_option maxRecDepth 100000 in
theorem x_m_L_estimate : x_mOK mL_estimate 4 := ⟨x_tbm 768 rfl rfl, x_tbm 50 (by decide +kernel) rfl, ⟨by decide +kernel, by decide +kernel, by decide +kernel, by decide +kernel⟩, rfl, Nat.le_of_ble_eq_true rfl⟩
theorem x_c84 : x_cOK (10189, 4, mL_estimate, 4) := ⟨x_m_L_estimate, fun _ => by decide, ⟨x_tbm 766 (by decide +kernel) rfl, x_tbm 767 (by decide +kernel) rfl, fun h => by cases h⟩⟩
set_option maxRecDepth 100000 in
theorem x_m_X8_estimate : x_mOK mX8_estimate 2 := ⟨x_tbm 772 rfl rfl, x_tbm 51 (by decide +kernel) rfl, ⟨by decide +kernel, by decide +kernel, by decide +kernel, by decide +kernel⟩, rfl, Nat.le_of_ble_eq_true rfl⟩
theorem x_c85 : x_cOK (10030, 0, mX8_estimate, 3) := ⟨x_m_X8_estimate, fun _ => by decide, ⟨x_tbm 769 (by decide +kernel) rfl, x_tbm 770 (by decide +kernel) rfl, x_tbm 771 (by decide +kernel) rfl, ⟨(RX8, TX8, 4), rfl, rfl⟩, rfl⟩⟩
set_option maxRecDepth 100000 in
theorem x_m_X8_isSpeciesOrNone : x_mOK mX8_isSpeciesOrNone 1 := ⟨x_tbm 776 rfl rfl, x_tbm 51 (by decide +kernel) rfl, ⟨by decide +kernel, by decide +kernel, by decide +kernel, by decide +kernel⟩, rfl, Nat.le_of_ble_eq_true rfl⟩
theorem x_c86 : x_cOK (8109, 0, mX8_isSpeciesOrNone, 2) := ⟨x_m_X8_isSpeciesOrNone, fun _ => by decide, ⟨x_tbm 773 (by decide +kernel) rfl, x_tbm 775 (by decide +kernel) rfl, x_tbm 3 (by decide +kernel) rfl, ⟨(RX8, TX8, 4), rfl, rfl⟩, rfl⟩⟩
set_option maxRecDepth 100000 in
theorem x_m_X2_total : x_mOK mX2_total 1 := ⟨x_tbm 780 rfl rfl, x_tbm 58 (by decide +kernel) rfl, ⟨by decide +kernel, by decide +kernel, by decide +kernel, by decide +kernel⟩, rfl, Nat.le_of_ble_eq_true rfl⟩
theorem x_c87 : x_cOK (8113, 0, mX2_total, 2) := ⟨x_m_X2_total, fun _ => by decide, ⟨x_tbm 777 (by decide +kernel) rfl, x_tbm 778 (by decide +kernel) rfl, x_tbm 779 (by decide +kernel) rfl, ⟨(RX2, TX2, 2), rfl, rfl⟩, rfl⟩⟩
set_option maxRecDepth 100000 in
theorem x_m_X2_volumeIn : x_mOK mX2_volumeIn 2 := ⟨x_tbm 784 rfl rfl, x_tbm 58 (by decide +kernel) rfl, ⟨by decide +kernel, by decide +kernel, by decide +kernel, by decide +kernel⟩, rfl, Nat.le_of_ble_eq_true rfl⟩
theorem x_c88 : x_cOK (2035, 0, mX2_volumeIn, 3) := ⟨x_m_X2_volumeIn, fun _ => by decide, ⟨x_tbm 781 (by decide +kernel) rfl, x_tbm 782 (by decide +kernel) rfl, x_tbm 783 (by decide +kernel) rfl, ⟨(RX2, TX2, 2), rfl, rfl⟩, rfl⟩⟩
set_option maxRecDepth 100000 in
theorem x_m_L_squaredError : x_mOK mL_squaredError 4 := ⟨x_tbm 787 rfl rfl, x_tbm 50 (by decide +kernel) rfl, ⟨by decide +kernel, by decide +kernel, by decide +kernel, by decide +kernel⟩, rfl, Nat.le_of_ble_eq_true rfl⟩
theorem x_c89 : x_cOK (10193, 4, mL_squaredError, 4) := ⟨x_m_L_squaredError, fun _ => by decide, ⟨x_tbm 785 (by decide +kernel) rfl, x_tbm 786 (by decide +kernel) rfl, fun h => by cases h⟩⟩
set_option maxRecDepth 100000 in
theorem x_m_X8_squaredError : x_mOK mX8_squaredError 2 := ⟨x_tbm 791 rfl rfl, x_tbm 51 (by decide +kernel) rfl, ⟨by decide +kernel, by decide +kernel, by decide +kernel, by decide +kernel⟩, rfl, Nat.le_of_ble_eq_true rfl⟩
theorem x_c90 : x_cOK (10034, 0, mX8_squaredError, 3) := ⟨x_m_X8_squaredError, fun _ => by decide, ⟨x_tbm 788 (by decide +kernel) rfl, x_tbm 789 (by decide +kernel) rfl, x_tbm 790 (by decide +kernel) rfl, ⟨(RX8, TX8, 4), rfl, rfl⟩, rfl⟩⟩
set_option maxRecDepth 100000 in
theorem x_m_X2_spread : x_mOK mX2_spread 1 := ⟨x_tbm 795 rfl rfl, x_tbm 58 (by decide +kernel) rfl, ⟨by decide +kernel, by decide +kernel, by decide +kernel, by decide +kernel⟩, rfl, Nat.le_of_ble_eq_true rfl⟩
theorem x_c91 : x_cOK (8121, 0, mX2_spread, 2) := ⟨x_m_X2_spread, fun _ => by decide, ⟨x_tbm 792 (by decide +kernel) rfl, x_tbm 793 (by decide +kernel) rfl, x_tbm 794 (by decide +kernel) rfl, ⟨(RX2, TX2, 2), rfl, rfl⟩, rfl⟩⟩
set_option maxRecDepth 100000 in
theorem x_m_L_isAccurate : x_mOK mL_isAccurate 4 := ⟨x_tbm 798 rfl rfl, x_tbm 50 (by decide +kernel) rfl, ⟨by decide +kernel, by decide +kernel, by decide +kernel, by decide +kernel⟩, rfl, Nat.le_of_ble_eq_true rfl⟩
theorem x_c92 : x_cOK (10196, 4, mL_isAccurate, 4) := ⟨x_m_L_isAccurate, fun _ => by decide, ⟨x_tbm 796 (by decide +kernel) rfl, x_tbm 797 (by decide +kernel) rfl, fun h => by cases h⟩⟩
set_option maxRecDepth 100000 in
theorem x_m_X8_isAccurate : x_mOK mX8_isAccurate 2 := ⟨x_tbm 802 rfl rfl, x_tbm 51 (by decide +kernel) rfl, ⟨by decide +kernel, by decide +kernel, by decide +kernel, by decide +kernel⟩, rfl, Nat.le_of_ble_eq_true rfl⟩
theorem x_c93 : x_cOK (10037, 0, mX8_isAccurate, 3) := ⟨x_m_X8_isAccurate, fun _ => by decide, ⟨x_tbm 799 (by decide +kernel) rfl, x_tbm 800 (by decide +kernel) rfl, x_tbm 801 (by decide +kernel) rfl, ⟨(RX8, TX8, 4), rfl, rfl⟩, rfl⟩⟩
set_option maxRecDepth 100000 in
theorem x_m_X8_requireAccuracyQuestion : x_mOK mX8_requireAccuracyQuestion 2 := ⟨x_tbm 806 rfl rfl, x_tbm 51 (by decide +kernel) rfl, ⟨by decide +kernel, by decide +kernel, by decide +kernel, by decide +kernel⟩, rfl, Nat.le_of_ble_eq_true rfl⟩
theorem x_c94 : x_cOK (8124, 0, mX8_requireAccuracyQuestion, 3) := ⟨x_m_X8_requireAccuracyQuestion, fun _ => by decide, ⟨x_tbm 803 (by decide +kernel) rfl, x_tbm 805 (by decide +kernel) rfl, x_tbm 4 (by decide +kernel) rfl, ⟨(RX8, TX8, 4), rfl, rfl⟩, rfl⟩⟩
set_option maxRecDepth 100000 in
theorem x_m_X2_weightedError : x_mOK mX2_weightedError 1 := ⟨x_tbm 810 rfl rfl, x_tbm 58 (by decide +kernel) rfl, ⟨by decide +kernel, by decide +kernel, by decide +kernel, by decide +kernel⟩, rfl, Nat.le_of_ble_eq_true rfl⟩
theorem x_c95 : x_cOK (8128, 0, mX2_weightedError, 2) := ⟨x_m_X2_weightedError, fun _ => by decide, ⟨x_tbm 807 (by decide +kernel) rfl, x_tbm 808 (by decide +kernel) rfl, x_tbm 809 (by decide +kernel) rfl, ⟨(RX2, TX2, 2), rfl, rfl⟩, rfl⟩⟩
theorem x_c96 : x_cOK (2041, 0, mX2_spread, 2) := ⟨x_m_X2_spread, fun _ => by decide, ⟨x_tbm 812 (by decide +kernel) rfl, x_tbm 793 (by decide +kernel) rfl, x_tbm 794 (by decide +kernel) rfl, ⟨(RX2, TX2, 2), rfl, rfl⟩, rfl⟩⟩
set_option maxRecDepth 100000 in
theorem x_m_X2_allowance : x_mOK mX2_allowance 3 := ⟨x_tbm 816 rfl rfl, x_tbm 58 (by decide +kernel) rfl, ⟨by decide +kernel, by decide +kernel, by decide +kernel, by decide +kernel⟩, rfl, Nat.le_of_ble_eq_true rfl⟩
theorem x_c97 : x_cOK (8131, 0, mX2_allowance, 4) := ⟨x_m_X2_allowance, fun _ => by decide, ⟨x_tbm 813 (by decide +kernel) rfl, x_tbm 814 (by decide +kernel) rfl, x_tbm 815 (by decide +kernel) rfl, ⟨(RX2, TX2, 2), rfl, rfl⟩, rfl⟩⟩
theorem x_c98 : x_cOK (2045, 0, mX2_total, 2) := ⟨x_m_X2_total, fun _ => by decide, ⟨x_tbm 817 (by decide +kernel) rfl, x_tbm 778 (by decide +kernel) rfl, x_tbm 779 (by decide +kernel) rfl, ⟨(RX2, TX2, 2), rfl, rfl⟩, rfl⟩⟩
set_option maxRecDepth 100000 in
theorem x_m_L_neededPlots : x_mOK mL_neededPlots 4 := ⟨x_tbm 820 rfl rfl, x_tbm 50 (by decide +kernel) rfl, ⟨by decide +kernel, by decide +kernel, by decide +kernel, by decide +kernel⟩, rfl, Nat.le_of_ble_eq_true rfl⟩
theorem x_c99 : x_cOK (10200, 4, mL_neededPlots, 4) := ⟨x_m_L_neededPlots, fun _ => by decide, ⟨x_tbm 818 (by decide +kernel) rfl, x_tbm 819 (by decide +kernel) rfl, fun h => by cases h⟩⟩
set_option maxRecDepth 100000 in
theorem x_m_X8_neededPlots : x_mOK mX8_neededPlots 2 := ⟨x_tbm 824 rfl rfl, x_tbm 51 (by decide +kernel) rfl, ⟨by decide +kernel, by decide +kernel, by decide +kernel, by decide +kernel⟩, rfl, Nat.le_of_ble_eq_true rfl⟩
theorem x_c100 : x_cOK (10041, 0, mX8_neededPlots, 3) := ⟨x_m_X8_neededPlots, fun _ => by decide, ⟨x_tbm 821 (by decide +kernel) rfl, x_tbm 822 (by decide +kernel) rfl, x_tbm 823 (by decide +kernel) rfl, ⟨(RX8, TX8, 4), rfl, rfl⟩, rfl⟩⟩
set_option maxRecDepth 100000 in
theorem x_m_L_mostInfluentialPlot : x_mOK mL_mostInfluentialPlot 3 := ⟨x_tbm 827 rfl rfl, x_tbm 50 (by decide +kernel) rfl, ⟨by decide +kernel, by decide +kernel, by decide +kernel, by decide +kernel⟩, rfl, Nat.le_of_ble_eq_true rfl⟩
theorem x_c101 : x_cOK (10203, 4, mL_mostInfluentialPlot, 3) := ⟨x_m_L_mostInfluentialPlot, fun _ => by decide, ⟨x_tbm 825 (by decide +kernel) rfl, x_tbm 826 (by decide +kernel) rfl, fun h => by cases h⟩⟩
set_option maxRecDepth 100000 in
theorem x_m_X8_mostInfluentialPlot : x_mOK mX8_mostInfluentialPlot 1 := ⟨x_tbm 831 rfl rfl, x_tbm 51 (by decide +kernel) rfl, ⟨by decide +kernel, by decide +kernel, by decide +kernel, by decide +kernel⟩, rfl, Nat.le_of_ble_eq_true rfl⟩
theorem x_c102 : x_cOK (10045, 0, mX8_mostInfluentialPlot, 2) := ⟨x_m_X8_mostInfluentialPlot, fun _ => by decide, ⟨x_tbm 828 (by decide +kernel) rfl, x_tbm 829 (by decide +kernel) rfl, x_tbm 830 (by decide +kernel) rfl, ⟨(RX8, TX8, 4), rfl, rfl⟩, rfl⟩⟩
set_option maxRecDepth 100000 in
theorem x_m_X2_mostInfluential : x_mOK mX2_mostInfluential 1 := ⟨x_tbm 835 rfl rfl, x_tbm 58 (by decide +kernel) rfl, ⟨by decide +kernel, by decide +kernel, by decide +kernel, by decide +kernel⟩, rfl, Nat.le_of_ble_eq_true rfl⟩
theorem x_c103 : x_cOK (8135, 0, mX2_mostInfluential, 2) := ⟨x_m_X2_mostInfluential, fun _ => by decide, ⟨x_tbm 832 (by decide +kernel) rfl, x_tbm 833 (by decide +kernel) rfl, x_tbm 834 (by decide +kernel) rfl, ⟨(RX2, TX2, 2), rfl, rfl⟩, rfl⟩⟩
set_option maxRecDepth 100000 in
theorem x_m_J9_abs_067f4 : x_mOK mJ9_abs_067f4 1 := ⟨x_tbm 839 rfl rfl, x_tbm 56 (by decide +kernel) rfl, ⟨by decide +kernel, by decide +kernel, by decide +kernel, by decide +kernel⟩, rfl, Nat.le_of_ble_eq_true rfl⟩
theorem x_c104 : x_cOK (2050, 1, mJ9_abs_067f4, 1) := ⟨x_m_J9_abs_067f4, fun _ => by decide, ⟨x_tbm 837 (by decide +kernel) rfl, x_tbm 838 (by decide +kernel) rfl, rfl⟩⟩
set_option maxRecDepth 100000 in
theorem x_m_L_advertise : x_mOK mL_advertise 2 := ⟨x_tbm 842 rfl rfl, x_tbm 50 (by decide +kernel) rfl, ⟨by decide +kernel, by decide +kernel, by decide +kernel, by decide +kernel⟩, rfl, Nat.le_of_ble_eq_true rfl⟩
theorem x_c105 : x_cOK (10206, 4, mL_advertise, 2) := ⟨x_m_L_advertise, fun _ => by decide, ⟨x_tbm 840 (by decide +kernel) rfl, x_tbm 841 (by decide +kernel) rfl, fun h => by cases h⟩⟩
set_option maxRecDepth 100000 in
theorem x_m_X8_advertise : x_mOK mX8_advertise 0 := ⟨x_tbm 846 rfl rfl, x_tbm 51 (by decide +kernel) rfl, ⟨by decide +kernel, by decide +kernel, by decide +kernel, by decide +kernel⟩, rfl, Nat.le_of_ble_eq_true rfl⟩
theorem x_c106 : x_cOK (10048, 0, mX8_advertise, 1) := ⟨x_m_X8_advertise, fun _ => by decide, ⟨x_tbm 843 (by decide +kernel) rfl, x_tbm 844 (by decide +kernel) rfl, x_tbm 845 (by decide +kernel) rfl, ⟨(RX8, TX8, 4), rfl, rfl⟩, rfl⟩⟩
set_option maxRecDepth 100000 in
theorem x_m_X6_beginBidding : x_mOK mX6_beginBidding 0 := ⟨x_tbm 850 rfl rfl, x_tbm 54 (by decide +kernel) rfl, ⟨by decide +kernel, by decide +kernel, by decide +kernel, by decide +kernel⟩, rfl, Nat.le_of_ble_eq_true rfl⟩
theorem x_c107 : x_cOK (8142, 0, mX6_beginBidding, 1) := ⟨x_m_X6_beginBidding, fun _ => by decide, ⟨x_tbm 847 (by decide +kernel) rfl, x_tbm 848 (by decide +kernel) rfl, x_tbm 849 (by decide +kernel) rfl, ⟨(RX6, TX6, 6), rfl, rfl⟩, rfl⟩⟩
set_option maxRecDepth 100000 in
theorem x_m_X2_roundedEstimate : x_mOK mX2_roundedEstimate 2 := ⟨x_tbm 854 rfl rfl, x_tbm 58 (by decide +kernel) rfl, ⟨by decide +kernel, by decide +kernel, by decide +kernel, by decide +kernel⟩, rfl, Nat.le_of_ble_eq_true rfl⟩
theorem x_c108 : x_cOK (6087, 0, mX2_roundedEstimate, 3) := ⟨x_m_X2_roundedEstimate, fun _ => by decide, ⟨x_tbm 851 (by decide +kernel) rfl, x_tbm 852 (by decide +kernel) rfl, x_tbm 853 (by decide +kernel) rfl, ⟨(RX2, TX2, 2), rfl, rfl⟩, rfl⟩⟩
set_option maxRecDepth 100000 in
theorem x_m_X6_beginSecondBidding : x_mOK mX6_beginSecondBidding 0 := ⟨x_tbm 858 rfl rfl, x_tbm 54 (by decide +kernel) rfl, ⟨by decide +kernel, by decide +kernel, by decide +kernel, by decide +kernel⟩, rfl, Nat.le_of_ble_eq_true rfl⟩
theorem x_c109 : x_cOK (8145, 0, mX6_beginSecondBidding, 1) := ⟨x_m_X6_beginSecondBidding, fun _ => by decide, ⟨x_tbm 855 (by decide +kernel) rfl, x_tbm 856 (by decide +kernel) rfl, x_tbm 857 (by decide +kernel) rfl, ⟨(RX6, TX6, 6), rfl, rfl⟩, rfl⟩⟩
set_option maxRecDepth 100000 in
theorem x_m_X6_remainingOf : x_mOK mX6_remainingOf 1 := ⟨x_tbm 862 rfl rfl, x_tbm 54 (by decide +kernel) rfl, ⟨by decide +kernel, by decide +kernel, by decide +kernel, by decide +kernel⟩, rfl, Nat.le_of_ble_eq_true rfl⟩
theorem x_c110 : x_cOK (6091, 0, mX6_remainingOf, 2) := ⟨x_m_X6_remainingOf, fun _ => by decide, ⟨x_tbm 859 (by decide +kernel) rfl, x_tbm 860 (by decide +kernel) rfl, x_tbm 861 (by decide +kernel) rfl, ⟨(RX6, TX6, 6), rfl, rfl⟩, rfl⟩⟩
set_option maxRecDepth 100000 in
theorem x_m_X8_sum : x_mOK mX8_sum 1 := ⟨x_tbm 865 rfl rfl, x_tbm 51 (by decide +kernel) rfl, ⟨by decide +kernel, by decide +kernel, by decide +kernel, by decide +kernel⟩, rfl, Nat.le_of_ble_eq_true rfl⟩
theorem x_c111 : x_cOK (8157, 1, mX8_sum, 1) := ⟨x_m_X8_sum, fun _ => by decide, ⟨x_tbm 863 (by decide +kernel) rfl, x_tbm 864 (by decide +kernel) rfl, rfl⟩⟩
set_option maxRecDepth 100000 in
theorem x_m_L_volume : x_mOK mL_volume 3 := ⟨x_tbm 868 rfl rfl, x_tbm 50 (by decide +kernel) rfl, ⟨by decide +kernel, by decide +kernel, by decide +kernel, by decide +kernel⟩, rfl, Nat.le_of_ble_eq_true rfl⟩
theorem x_c112 : x_cOK (10210, 4, mL_volume, 3) := ⟨x_m_L_volume, fun _ => by decide, ⟨x_tbm 866 (by decide +kernel) rfl, x_tbm 867 (by decide +kernel) rfl, fun h => by cases h⟩⟩
set_option maxRecDepth 100000 in
theorem x_m_X8_volume : x_mOK mX8_volume 1 := ⟨x_tbm 872 rfl rfl, x_tbm 51 (by decide +kernel) rfl, ⟨by decide +kernel, by decide +kernel, by decide +kernel, by decide +kernel⟩, rfl, Nat.le_of_ble_eq_true rfl⟩
theorem x_c113 : x_cOK (10052, 0, mX8_volume, 2) := ⟨x_m_X8_volume, fun _ => by decide, ⟨x_tbm 869 (by decide +kernel) rfl, x_tbm 870 (by decide +kernel) rfl, x_tbm 871 (by decide +kernel) rfl, ⟨(RX8, TX8, 4), rfl, rfl⟩, rfl⟩⟩
set_option maxRecDepth 100000 in
theorem x_m_L_offer : x_mOK mL_offer 5 := ⟨x_tbm 875 rfl rfl, x_tbm 50 (by decide +kernel) rfl, ⟨by decide +kernel, by decide +kernel, by decide +kernel, by decide +kernel⟩, rfl, Nat.le_of_ble_eq_true rfl⟩
theorem x_c114 : x_cOK (10213, 4, mL_offer, 5) := ⟨x_m_L_offer, fun _ => by decide, ⟨x_tbm 873 (by decide +kernel) rfl, x_tbm 874 (by decide +kernel) rfl, fun h => by cases h⟩⟩
set_option maxRecDepth 100000 in
theorem x_m_X8_offer : x_mOK mX8_offer 3 := ⟨x_tbm 879 rfl rfl, x_tbm 51 (by decide +kernel) rfl, ⟨by decide +kernel, by decide +kernel, by decide +kernel, by decide +kernel⟩, rfl, Nat.le_of_ble_eq_true rfl⟩
theorem x_c115 : x_cOK (10055, 0, mX8_offer, 4) := ⟨x_m_X8_offer, fun _ => by decide, ⟨x_tbm 876 (by decide +kernel) rfl, x_tbm 877 (by decide +kernel) rfl, x_tbm 878 (by decide +kernel) rfl, ⟨(RX8, TX8, 4), rfl, rfl⟩, rfl⟩⟩
set_option maxRecDepth 100000 in
theorem x_m_X8_isBidder : x_mOK mX8_isBidder 1 := ⟨x_tbm 882 rfl rfl, x_tbm 51 (by decide +kernel) rfl, ⟨by decide +kernel, by decide +kernel, by decide +kernel, by decide +kernel⟩, rfl, Nat.le_of_ble_eq_true rfl⟩
theorem x_c116 : x_cOK (8164, 1, mX8_isBidder, 1) := ⟨x_m_X8_isBidder, fun _ => by decide, ⟨x_tbm 880 (by decide +kernel) rfl, x_tbm 881 (by decide +kernel) rfl, rfl⟩⟩
set_option maxRecDepth 100000 in
theorem x_m_X6_isBidding : x_mOK mX6_isBidding 0 := ⟨x_tbm 887 rfl rfl, x_tbm 54 (by decide +kernel) rfl, ⟨by decide +kernel, by decide +kernel, by decide +kernel, by decide +kernel⟩, rfl, Nat.le_of_ble_eq_true rfl⟩
theorem x_c117 : x_cOK (8168, 0, mX6_isBidding, 1) := ⟨x_m_X6_isBidding, fun _ => by decide, ⟨x_tbm 884 (by decide +kernel) rfl, x_tbm 885 (by decide +kernel) rfl, x_tbm 886 (by decide +kernel) rfl, ⟨(RX6, TX6, 6), rfl, rfl⟩, rfl⟩⟩
set_option maxRecDepth 100000 in
theorem x_m_X0_isSealed : x_mOK mX0_isSealed 1 := ⟨x_tbm 891 rfl rfl, x_tbm 59 (by decide +kernel) rfl, ⟨by decide +kernel, by decide +kernel, by decide +kernel, by decide +kernel⟩, rfl, Nat.le_of_ble_eq_true rfl⟩
theorem x_c118 : x_cOK (8171, 0, mX0_isSealed, 2) := ⟨x_m_X0_isSealed, fun _ => by decide, ⟨x_tbm 888 (by decide +kernel) rfl, x_tbm 889 (by decide +kernel) rfl, x_tbm 890 (by decide +kernel) rfl, ⟨(RX0, TX0, 6), rfl, rfl⟩, rfl⟩⟩
set_option maxRecDepth 100000 in
theorem x_m_X0_rateOf : x_mOK mX0_rateOf 2 := ⟨x_tbm 895 rfl rfl, x_tbm 59 (by decide +kernel) rfl, ⟨by decide +kernel, by decide +kernel, by decide +kernel, by decide +kernel⟩, rfl, Nat.le_of_ble_eq_true rfl⟩
theorem x_c119 : x_cOK (8174, 0, mX0_rateOf, 3) := ⟨x_m_X0_rateOf, fun _ => by decide, ⟨x_tbm 892 (by decide +kernel) rfl, x_tbm 893 (by decide +kernel) rfl, x_tbm 894 (by decide +kernel) rfl, ⟨(RX0, TX0, 6), rfl, rfl⟩, rfl⟩⟩
set_option maxRecDepth 100000 in
theorem x_m_X0_setRate : x_mOK mX0_setRate 3 := ⟨x_tbm 899 rfl rfl, x_tbm 59 (by decide +kernel) rfl, ⟨by decide +kernel, by decide +kernel, by decide +kernel, by decide +kernel⟩, rfl, Nat.le_of_ble_eq_true rfl⟩
theorem x_c120 : x_cOK (8177, 0, mX0_setRate, 4) := ⟨x_m_X0_setRate, fun _ => by decide, ⟨x_tbm 896 (by decide +kernel) rfl, x_tbm 897 (by decide +kernel) rfl, x_tbm 898 (by decide +kernel) rfl, ⟨(RX0, TX0, 6), rfl, rfl⟩, rfl⟩⟩
set_option maxRecDepth 100000 in
theorem x_m_L_setDeposit : x_mOK mL_setDeposit 4 := ⟨x_tbm 902 rfl rfl, x_tbm 50 (by decide +kernel) rfl, ⟨by decide +kernel, by decide +kernel, by decide +kernel, by decide +kernel⟩, rfl, Nat.le_of_ble_eq_true rfl⟩
theorem x_c121 : x_cOK (10217, 4, mL_setDeposit, 4) := ⟨x_m_L_setDeposit, fun _ => by decide, ⟨x_tbm 900 (by decide +kernel) rfl, x_tbm 901 (by decide +kernel) rfl, fun h => by cases h⟩⟩
set_option maxRecDepth 100000 in
theorem x_m_X8_setDeposit : x_mOK mX8_setDeposit 2 := ⟨x_tbm 906 rfl rfl, x_tbm 51 (by decide +kernel) rfl, ⟨by decide +kernel, by decide +kernel, by decide +kernel, by decide +kernel⟩, rfl, Nat.le_of_ble_eq_true rfl⟩
theorem x_c122 : x_cOK (10059, 0, mX8_setDeposit, 3) := ⟨x_m_X8_setDeposit, fun _ => by decide, ⟨x_tbm 903 (by decide +kernel) rfl, x_tbm 904 (by decide +kernel) rfl, x_tbm 905 (by decide +kernel) rfl, ⟨(RX8, TX8, 4), rfl, rfl⟩, rfl⟩⟩
set_option maxRecDepth 100000 in
theorem x_m_L_seal : x_mOK mL_seal 3 := ⟨x_tbm 910 rfl rfl, x_tbm 50 (by decide +kernel) rfl, ⟨by decide +kernel, by decide +kernel, by decide +kernel, by decide +kernel⟩, rfl, Nat.le_of_ble_eq_true rfl⟩
theorem x_c123 : x_cOK (10220, 4, mL_seal, 3) := ⟨x_m_L_seal, fun _ => by decide, ⟨x_tbm 908 (by decide +kernel) rfl, x_tbm 909 (by decide +kernel) rfl, fun h => by cases h⟩⟩
set_option maxRecDepth 100000 in
theorem x_m_X8_seal : x_mOK mX8_seal 1 := ⟨x_tbm 914 rfl rfl, x_tbm 51 (by decide +kernel) rfl, ⟨by decide +kernel, by decide +kernel, by decide +kernel, by decide +kernel⟩, rfl, Nat.le_of_ble_eq_true rfl⟩
theorem x_c124 : x_cOK (10062, 0, mX8_seal, 2) := ⟨x_m_X8_seal, fun _ => by decide, ⟨x_tbm 911 (by decide +kernel) rfl, x_tbm 912 (by decide +kernel) rfl, x_tbm 913 (by decide +kernel) rfl, ⟨(RX8, TX8, 4), rfl, rfl⟩, rfl⟩⟩
set_option maxRecDepth 100000 in
theorem x_m_X0_sealNext : x_mOK mX0_sealNext 1 := ⟨x_tbm 918 rfl rfl, x_tbm 59 (by decide +kernel) rfl, ⟨by decide +kernel, by decide +kernel, by decide +kernel, by decide +kernel⟩, rfl, Nat.le_of_ble_eq_true rfl⟩
theorem x_c125 : x_cOK (8185, 0, mX0_sealNext, 2) := ⟨x_m_X0_sealNext, fun _ => by decide, ⟨x_tbm 915 (by decide +kernel) rfl, x_tbm 916 (by decide +kernel) rfl, x_tbm 917 (by decide +kernel) rfl, ⟨(RX0, TX0, 6), rfl, rfl⟩, rfl⟩⟩
set_option maxRecDepth 100000 in
theorem x_m_L_withdraw : x_mOK mL_withdraw 2 := ⟨x_tbm 921 rfl rfl, x_tbm 50 (by decide +kernel) rfl, ⟨by decide +kernel, by decide +kernel, by decide +kernel, by decide +kernel⟩, rfl, Nat.le_of_ble_eq_true rfl⟩
theorem x_c126 : x_cOK (10223, 4, mL_withdraw, 2) := ⟨x_m_L_withdraw, fun _ => by decide, ⟨x_tbm 919 (by decide +kernel) rfl, x_tbm 920 (by decide +kernel) rfl, fun h => by cases h⟩⟩
set_option maxRecDepth 100000 in
theorem x_m_X8_withdraw : x_mOK mX8_withdraw 1 := ⟨x_tbm 925 rfl rfl, x_tbm 51 (by decide +kernel) rfl, ⟨by decide +kernel, by decide +kernel, by decide +kernel, by decide +kernel⟩, rfl, Nat.le_of_ble_eq_true rfl⟩
theorem x_c127 : x_cOK (10065, 0, mX8_withdraw, 2) := ⟨x_m_X8_withdraw, fun _ => by decide, ⟨x_tbm 922 (by decide +kernel) rfl, x_tbm 923 (by decide +kernel) rfl, x_tbm 924 (by decide +kernel) rfl, ⟨(RX8, TX8, 4), rfl, rfl⟩, rfl⟩⟩
set_option maxRecDepth 100000 in
theorem x_m_X0_delete : x_mOK mX0_delete 1 := ⟨x_tbm 929 rfl rfl, x_tbm 59 (by decide +kernel) rfl, ⟨by decide +kernel, by decide +kernel, by decide +kernel, by decide +kernel⟩, rfl, Nat.le_of_ble_eq_true rfl⟩
theorem x_c128 : x_cOK (8188, 0, mX0_delete, 2) := ⟨x_m_X0_delete, fun _ => by decide, ⟨x_tbm 926 (by decide +kernel) rfl, x_tbm 927 (by decide +kernel) rfl, x_tbm 928 (by decide +kernel) rfl, ⟨(RX0, TX0, 6), rfl, rfl⟩, rfl⟩⟩
theorem x_c129 : x_cOK (41, 0, mX0_setRate, 4) := ⟨x_m_X0_setRate, fun _ => by decide, ⟨x_tbm 930 (by decide +kernel) rfl, x_tbm 897 (by decide +kernel) rfl, x_tbm 898 (by decide +kernel) rfl, ⟨(RX0, TX0, 6), rfl, rfl⟩, rfl⟩⟩
set_option maxRecDepth 100000 in
theorem x_m_L_open : x_mOK mL_open 2 := ⟨x_tbm 933 rfl rfl, x_tbm 50 (by decide +kernel) rfl, ⟨by decide +kernel, by decide +kernel, by decide +kernel, by decide +kernel⟩, rfl, Nat.le_of_ble_eq_true rfl⟩
theorem x_c130 : x_cOK (10227, 4, mL_open, 2) := ⟨x_m_L_open, fun _ => by decide, ⟨x_tbm 931 (by decide +kernel) rfl, x_tbm 932 (by decide +kernel) rfl, fun h => by cases h⟩⟩
set_option maxRecDepth 100000 in
theorem x_m_X8_open : x_mOK mX8_open 0 := ⟨x_tbm 937 rfl rfl, x_tbm 51 (by decide +kernel) rfl, ⟨by decide +kernel, by decide +kernel, by decide +kernel, by decide +kernel⟩, rfl, Nat.le_of_ble_eq_true rfl⟩
theorem x_c131 : x_cOK (10069, 0, mX8_open, 1) := ⟨x_m_X8_open, fun _ => by decide, ⟨x_tbm 934 (by decide +kernel) rfl, x_tbm 935 (by decide +kernel) rfl, x_tbm 936 (by decide +kernel) rfl, ⟨(RX8, TX8, 4), rfl, rfl⟩, rfl⟩⟩
set_option maxRecDepth 100000 in
theorem x_m_X0_validBids : x_mOK mX0_validBids 1 := ⟨x_tbm 941 rfl rfl, x_tbm 59 (by decide +kernel) rfl, ⟨by decide +kernel, by decide +kernel, by decide +kernel, by decide +kernel⟩, rfl, Nat.le_of_ble_eq_true rfl⟩
theorem x_c132 : x_cOK (8191, 0, mX0_validBids, 2) := ⟨x_m_X0_validBids, fun _ => by decide, ⟨x_tbm 938 (by decide +kernel) rfl, x_tbm 939 (by decide +kernel) rfl, x_tbm 940 (by decide +kernel) rfl, ⟨(RX0, TX0, 6), rfl, rfl⟩, rfl⟩⟩
set_option maxRecDepth 100000 in
theorem x_m_X0_isValid : x_mOK mX0_isValid 2 := ⟨x_tbm 945 rfl rfl, x_tbm 59 (by decide +kernel) rfl, ⟨by decide +kernel, by decide +kernel, by decide +kernel, by decide +kernel⟩, rfl, Nat.le_of_ble_eq_true rfl⟩
theorem x_c133 : x_cOK (82, 0, mX0_isValid, 3) := ⟨x_m_X0_isValid, fun _ => by decide, ⟨x_tbm 942 (by decide +kernel) rfl, x_tbm 943 (by decide +kernel) rfl, x_tbm 944 (by decide +kernel) rfl, ⟨(RX0, TX0, 6), rfl, rfl⟩, rfl⟩⟩
set_option maxRecDepth 100000 in
theorem x_m_X0_problemOf : x_mOK mX0_problemOf 2 := ⟨x_tbm 949 rfl rfl, x_tbm 59 (by decide +kernel) rfl, ⟨by decide +kernel, by decide +kernel, by decide +kernel, by decide +kernel⟩, rfl, Nat.le_of_ble_eq_true rfl⟩
theorem x_c134 : x_cOK (78, 0, mX0_problemOf, 3) := ⟨x_m_X0_problemOf, fun _ => by decide, ⟨x_tbm 946 (by decide +kernel) rfl, x_tbm 947 (by decide +kernel) rfl, x_tbm 948 (by decide +kernel) rfl, ⟨(RX0, TX0, 6), rfl, rfl⟩, rfl⟩⟩
theorem x_c135 : x_cOK (49, 0, mX0_isSealed, 2) := ⟨x_m_X0_isSealed, fun _ => by decide, ⟨x_tbm 950 (by decide +kernel) rfl, x_tbm 889 (by decide +kernel) rfl, x_tbm 890 (by decide +kernel) rfl, ⟨(RX0, TX0, 6), rfl, rfl⟩, rfl⟩⟩
set_option maxRecDepth 100000 in
theorem x_m_X0_hasLowRate : x_mOK mX0_hasLowRate 3 := ⟨x_tbm 954 rfl rfl, x_tbm 59 (by decide +kernel) rfl, ⟨by decide +kernel, by decide +kernel, by decide +kernel, by decide +kernel⟩, rfl, Nat.le_of_ble_eq_true rfl⟩
theorem x_c136 : x_cOK (53, 0, mX0_hasLowRate, 4) := ⟨x_m_X0_hasLowRate, fun _ => by decide, ⟨x_tbm 951 (by decide +kernel) rfl, x_tbm 952 (by decide +kernel) rfl, x_tbm 953 (by decide +kernel) rfl, ⟨(RX0, TX0, 6), rfl, rfl⟩, rfl⟩⟩
theorem x_c137 : x_cOK (45, 0, mX0_rateOf, 3) := ⟨x_m_X0_rateOf, fun _ => by decide, ⟨x_tbm 955 (by decide +kernel) rfl, x_tbm 893 (by decide +kernel) rfl, x_tbm 894 (by decide +kernel) rfl, ⟨(RX0, TX0, 6), rfl, rfl⟩, rfl⟩⟩
set_option maxRecDepth 100000 in
theorem x_m_X0_valueOf : x_mOK mX0_valueOf 1 := ⟨x_tbm 959 rfl rfl, x_tbm 59 (by decide +kernel) rfl, ⟨by decide +kernel, by decide +kernel, by decide +kernel, by decide +kernel⟩, rfl, Nat.le_of_ble_eq_true rfl⟩
theorem x_c138 : x_cOK (57, 0, mX0_valueOf, 2) := ⟨x_m_X0_valueOf, fun _ => by decide, ⟨x_tbm 956 (by decide +kernel) rfl, x_tbm 957 (by decide +kernel) rfl, x_tbm 958 (by decide +kernel) rfl, ⟨(RX0, TX0, 6), rfl, rfl⟩, rfl⟩⟩
set_option maxRecDepth 100000 in
theorem x_m_X0_isDepositTooLow : x_mOK mX0_isDepositTooLow 3 := ⟨x_tbm 963 rfl rfl, x_tbm 59 (by decide +kernel) rfl, ⟨by decide +kernel, by decide +kernel, by decide +kernel, by decide +kernel⟩, rfl, Nat.le_of_ble_eq_true rfl⟩
theorem x_c139 : x_cOK (61, 0, mX0_isDepositTooLow, 4) := ⟨x_m_X0_isDepositTooLow, fun _ => by decide, ⟨x_tbm 960 (by decide +kernel) rfl, x_tbm 961 (by decide +kernel) rfl, x_tbm 962 (by decide +kernel) rfl, ⟨(RX0, TX0, 6), rfl, rfl⟩, rfl⟩⟩
set_option maxRecDepth 100000 in
theorem x_m_L_problem : x_mOK mL_problem 3 := ⟨x_tbm 967 rfl rfl, x_tbm 50 (by decide +kernel) rfl, ⟨by decide +kernel, by decide +kernel, by decide +kernel, by decide +kernel⟩, rfl, Nat.le_of_ble_eq_true rfl⟩
theorem x_c140 : x_cOK (10230, 4, mL_problem, 3) := ⟨x_m_L_problem, fun _ => by decide, ⟨x_tbm 965 (by decide +kernel) rfl, x_tbm 966 (by decide +kernel) rfl, fun h => by cases h⟩⟩
set_option maxRecDepth 100000 in
theorem x_m_X8_problem : x_mOK mX8_problem 1 := ⟨x_tbm 971 rfl rfl, x_tbm 51 (by decide +kernel) rfl, ⟨by decide +kernel, by decide +kernel, by decide +kernel, by decide +kernel⟩, rfl, Nat.le_of_ble_eq_true rfl⟩
theorem x_c141 : x_cOK (10072, 0, mX8_problem, 2) := ⟨x_m_X8_problem, fun _ => by decide, ⟨x_tbm 968 (by decide +kernel) rfl, x_tbm 969 (by decide +kernel) rfl, x_tbm 970 (by decide +kernel) rfl, ⟨(RX8, TX8, 4), rfl, rfl⟩, rfl⟩⟩
set_option maxRecDepth 100000 in
theorem x_m_X6_hasOpenBids : x_mOK mX6_hasOpenBids 0 := ⟨x_tbm 975 rfl rfl, x_tbm 54 (by decide +kernel) rfl, ⟨by decide +kernel, by decide +kernel, by decide +kernel, by decide +kernel⟩, rfl, Nat.le_of_ble_eq_true rfl⟩
theorem x_c142 : x_cOK (8195, 0, mX6_hasOpenBids, 1) := ⟨x_m_X6_hasOpenBids, fun _ => by decide, ⟨x_tbm 972 (by decide +kernel) rfl, x_tbm 973 (by decide +kernel) rfl, x_tbm 974 (by decide +kernel) rfl, ⟨(RX6, TX6, 6), rfl, rfl⟩, rfl⟩⟩
theorem x_c143 : x_cOK (6073, 0, mX6_isBidding, 1) := ⟨x_m_X6_isBidding, fun _ => by decide, ⟨x_tbm 976 (by decide +kernel) rfl, x_tbm 885 (by decide +kernel) rfl, x_tbm 886 (by decide +kernel) rfl, ⟨(RX6, TX6, 6), rfl, rfl⟩, rfl⟩⟩
theorem x_c144 : x_cOK (8198, 0, mX0_problemOf, 3) := ⟨x_m_X0_problemOf, fun _ => by decide, ⟨x_tbm 977 (by decide +kernel) rfl, x_tbm 947 (by decide +kernel) rfl, x_tbm 948 (by decide +kernel) rfl, ⟨(RX0, TX0, 6), rfl, rfl⟩, rfl⟩⟩
set_option maxRecDepth 100000 in
theorem x_m_L_value : x_mOK mL_value 3 := ⟨x_tbm 980 rfl rfl, x_tbm 50 (by decide +kernel) rfl, ⟨by decide +kernel, by decide +kernel, by decide +kernel, by decide +kernel⟩, rfl, Nat.le_of_ble_eq_true rfl⟩
theorem x_c145 : x_cOK (10233, 4, mL_value, 3) := ⟨x_m_L_value, fun _ => by decide, ⟨x_tbm 978 (by decide +kernel) rfl, x_tbm 979 (by decide +kernel) rfl, fun h => by cases h⟩⟩
set_option maxRecDepth 100000 in
theorem x_m_X8_value : x_mOK mX8_value 1 := ⟨x_tbm 984 rfl rfl, x_tbm 51 (by decide +kernel) rfl, ⟨by decide +kernel, by decide +kernel, by decide +kernel, by decide +kernel⟩, rfl, Nat.le_of_ble_eq_true rfl⟩
theorem x_c146 : x_cOK (10075, 0, mX8_value, 2) := ⟨x_m_X8_value, fun _ => by decide, ⟨x_tbm 981 (by decide +kernel) rfl, x_tbm 982 (by decide +kernel) rfl, x_tbm 983 (by decide +kernel) rfl, ⟨(RX8, TX8, 4), rfl, rfl⟩, rfl⟩⟩
theorem x_c147 : x_cOK (8202, 0, mX0_valueOf, 2) := ⟨x_m_X0_valueOf, fun _ => by decide, ⟨x_tbm 985 (by decide +kernel) rfl, x_tbm 957 (by decide +kernel) rfl, x_tbm 958 (by decide +kernel) rfl, ⟨(RX0, TX0, 6), rfl, rfl⟩, rfl⟩⟩
set_option maxRecDepth 100000 in
theorem x_m_L_rank : x_mOK mL_rank 3 := ⟨x_tbm 988 rfl rfl, x_tbm 50 (by decide +kernel) rfl, ⟨by decide +kernel, by decide +kernel, by decide +kernel, by decide +kernel⟩, rfl, Nat.le_of_ble_eq_true rfl⟩
theorem x_c148 : x_cOK (10236, 4, mL_rank, 3) := ⟨x_m_L_rank, fun _ => by decide, ⟨x_tbm 986 (by decide +kernel) rfl, x_tbm 987 (by decide +kernel) rfl, fun h => by cases h⟩⟩
set_option maxRecDepth 100000 in
theorem x_m_X8_rank : x_mOK mX8_rank 1 := ⟨x_tbm 992 rfl rfl, x_tbm 51 (by decide +kernel) rfl, ⟨by decide +kernel, by decide +kernel, by decide +kernel, by decide +kernel⟩, rfl, Nat.le_of_ble_eq_true rfl⟩
theorem x_c149 : x_cOK (10079, 0, mX8_rank, 2) := ⟨x_m_X8_rank, fun _ => by decide, ⟨x_tbm 989 (by decide +kernel) rfl, x_tbm 990 (by decide +kernel) rfl, x_tbm 991 (by decide +kernel) rfl, ⟨(RX8, TX8, 4), rfl, rfl⟩, rfl⟩⟩
set_option maxRecDepth 100000 in
theorem x_m_X0_rankOf : x_mOK mX0_rankOf 2 := ⟨x_tbm 996 rfl rfl, x_tbm 59 (by decide +kernel) rfl, ⟨by decide +kernel, by decide +kernel, by decide +kernel, by decide +kernel⟩, rfl, Nat.le_of_ble_eq_true rfl⟩
theorem x_c150 : x_cOK (8205, 0, mX0_rankOf, 3) := ⟨x_m_X0_rankOf, fun _ => by decide, ⟨x_tbm 993 (by decide +kernel) rfl, x_tbm 994 (by decide +kernel) rfl, x_tbm 995 (by decide +kernel) rfl, ⟨(RX0, TX0, 6), rfl, rfl⟩, rfl⟩⟩
set_option maxRecDepth 100000 in
theorem x_m_X0_beats : x_mOK mX0_beats 2 := ⟨x_tbm 1000 rfl rfl, x_tbm 59 (by decide +kernel) rfl, ⟨by decide +kernel, by decide +kernel, by decide +kernel, by decide +kernel⟩, rfl, Nat.le_of_ble_eq_true rfl⟩
theorem x_c151 : x_cOK (90, 0, mX0_beats, 3) := ⟨x_m_X0_beats, fun _ => by decide, ⟨x_tbm 997 (by decide +kernel) rfl, x_tbm 998 (by decide +kernel) rfl, x_tbm 999 (by decide +kernel) rfl, ⟨(RX0, TX0, 6), rfl, rfl⟩, rfl⟩⟩
set_option maxRecDepth 100000 in
theorem x_m_X0_goesBefore : x_mOK mX0_goesBefore 3 := ⟨x_tbm 1004 rfl rfl, x_tbm 59 (by decide +kernel) rfl, ⟨by decide +kernel, by decide +kernel, by decide +kernel, by decide +kernel⟩, rfl, Nat.le_of_ble_eq_true rfl⟩
theorem x_c152 : x_cOK (86, 0, mX0_goesBefore, 4) := ⟨x_m_X0_goesBefore, fun _ => by decide, ⟨x_tbm 1001 (by decide +kernel) rfl, x_tbm 1002 (by decide +kernel) rfl, x_tbm 1003 (by decide +kernel) rfl, ⟨(RX0, TX0, 6), rfl, rfl⟩, rfl⟩⟩
set_option maxRecDepth 100000 in
theorem x_m_L_turningPoint : x_mOK mL_turningPoint 3 := ⟨x_tbm 1007 rfl rfl, x_tbm 50 (by decide +kernel) rfl, ⟨by decide +kernel, by decide +kernel, by decide +kernel, by decide +kernel⟩, rfl, Nat.le_of_ble_eq_true rfl⟩
theorem x_c153 : x_cOK (10239, 4, mL_turningPoint, 3) := ⟨x_m_L_turningPoint, fun _ => by decide, ⟨x_tbm 1005 (by decide +kernel) rfl, x_tbm 1006 (by decide +kernel) rfl, fun h => by cases h⟩⟩
set_option maxRecDepth 100000 in
theorem x_m_X8_turningPoint : x_mOK mX8_turningPoint 1 := ⟨x_tbm 1012 rfl rfl, x_tbm 51 (by decide +kernel) rfl, ⟨by decide +kernel, by decide +kernel, by decide +kernel, by decide +kernel⟩, rfl, Nat.le_of_ble_eq_true rfl⟩
theorem x_c154 : x_cOK (10082, 0, mX8_turningPoint, 2) := ⟨x_m_X8_turningPoint, fun _ => by decide, ⟨x_tbm 1009 (by decide +kernel) rfl, x_tbm 1010 (by decide +kernel) rfl, x_tbm 1011 (by decide +kernel) rfl, ⟨(RX8, TX8, 4), rfl, rfl⟩, rfl⟩⟩
set_option maxRecDepth 100000 in
theorem x_m_X0_winner : x_mOK mX0_winner 1 := ⟨x_tbm 1016 rfl rfl, x_tbm 59 (by decide +kernel) rfl, ⟨by decide +kernel, by decide +kernel, by decide +kernel, by decide +kernel⟩, rfl, Nat.le_of_ble_eq_true rfl⟩
theorem x_c155 : x_cOK (8208, 0, mX0_winner, 2) := ⟨x_m_X0_winner, fun _ => by decide, ⟨x_tbm 1013 (by decide +kernel) rfl, x_tbm 1014 (by decide +kernel) rfl, x_tbm 1015 (by decide +kernel) rfl, ⟨(RX0, TX0, 6), rfl, rfl⟩, rfl⟩⟩
set_option maxRecDepth 100000 in
theorem x_m_X8_requireFound : x_mOK mX8_requireFound 1 := ⟨x_tbm 1019 rfl rfl, x_tbm 51 (by decide +kernel) rfl, ⟨by decide +kernel, by decide +kernel, by decide +kernel, by decide +kernel⟩, rfl, Nat.le_of_ble_eq_true rfl⟩
theorem x_c156 : x_cOK (8211, 1, mX8_requireFound, 1) := ⟨x_m_X8_requireFound, fun _ => by decide, ⟨x_tbm 1017 (by decide +kernel) rfl, x_tbm 1018 (by decide +kernel) rfl, rfl⟩⟩
set_option maxRecDepth 100000 in
theorem x_m_X0_leastTurningChange : x_mOK mX0_leastTurningChange 3 := ⟨x_tbm 1039 rfl rfl, x_tbm 59 (by decide +kernel) rfl, ⟨by decide +kernel, by decide +kernel, by decide +kernel, by decide +kernel⟩, rfl, Nat.le_of_ble_eq_true rfl⟩
theorem x_c157 : x_cOK (8214, 0, mX0_leastTurningChange, 4) := ⟨x_m_X0_leastTurningChange, fun _ => by decide, ⟨x_tbm 1036 (by decide +kernel) rfl, x_tbm 1037 (by decide +kernel) rfl, x_tbm 1038 (by decide +kernel) rfl, ⟨(RX0, TX0, 6), rfl, rfl⟩, rfl⟩⟩
set_option maxRecDepth 100000 in
theorem x_m_X0_turningChange : x_mOK mX0_turningChange 3 := ⟨x_tbm 1043 rfl rfl, x_tbm 59 (by decide +kernel) rfl, ⟨by decide +kernel, by decide +kernel, by decide +kernel, by decide +kernel⟩, rfl, Nat.le_of_ble_eq_true rfl⟩
theorem x_c158 : x_cOK (94, 0, mX0_turningChange, 4) := ⟨x_m_X0_turningChange, fun _ => by decide, ⟨x_tbm 1040 (by decide +kernel) rfl, x_tbm 1041 (by decide +kernel) rfl, x_tbm 1042 (by decide +kernel) rfl, ⟨(RX0, TX0, 6), rfl, rfl⟩, rfl⟩⟩
set_option maxRecDepth 100000 in
theorem x_m_X0_growth : x_mOK mX0_growth 2 := ⟨x_tbm 1047 rfl rfl, x_tbm 59 (by decide +kernel) rfl, ⟨by decide +kernel, by decide +kernel, by decide +kernel, by decide +kernel⟩, rfl, Nat.le_of_ble_eq_true rfl⟩
theorem x_c159 : x_cOK (107, 0, mX0_growth, 3) := ⟨x_m_X0_growth, fun _ => by decide, ⟨x_tbm 1044 (by decide +kernel) rfl, x_tbm 1045 (by decide +kernel) rfl, x_tbm 1046 (by decide +kernel) rfl, ⟨(RX0, TX0, 6), rfl, rfl⟩, rfl⟩⟩
set_option maxRecDepth 100000 in
theorem x_m_X0_isLessChange : x_mOK mX0_isLessChange 2 := ⟨x_tbm 1051 rfl rfl, x_tbm 59 (by decide +kernel) rfl, ⟨by decide +kernel, by decide +kernel, by decide +kernel, by decide +kernel⟩, rfl, Nat.le_of_ble_eq_true rfl⟩
theorem x_c160 : x_cOK (98, 0, mX0_isLessChange, 3) := ⟨x_m_X0_isLessChange, fun _ => by decide, ⟨x_tbm 1048 (by decide +kernel) rfl, x_tbm 1049 (by decide +kernel) rfl, x_tbm 1050 (by decide +kernel) rfl, ⟨(RX0, TX0, 6), rfl, rfl⟩, rfl⟩⟩
theorem x_c161 : x_cOK (101, 1, mJ9_abs_0f7a4, 1) := ⟨x_m_J9_abs_0f7a4, fun _ => by decide, ⟨x_tbm 1052 (by decide +kernel) rfl, x_tbm 369 (by decide +kernel) rfl, rfl⟩⟩
set_option maxRecDepth 100000 in
theorem x_m_L_leastWinningRate : x_mOK mL_leastWinningRate 4 := ⟨x_tbm 1055 rfl rfl, x_tbm 50 (by decide +kernel) rfl, ⟨by decide +kernel, by decide +kernel, by decide +kernel, by decide +kernel⟩, rfl, Nat.le_of_ble_eq_true rfl⟩
theorem x_c162 : x_cOK (10242, 4, mL_leastWinningRate, 4) := ⟨x_m_L_leastWinningRate, fun _ => by decide, ⟨x_tbm 1053 (by decide +kernel) rfl, x_tbm 1054 (by decide +kernel) rfl, fun h => by cases h⟩⟩
set_option maxRecDepth 100000 in
theorem x_m_X8_leastWinningRate : x_mOK mX8_leastWinningRate 2 := ⟨x_tbm 1059 rfl rfl, x_tbm 51 (by decide +kernel) rfl, ⟨by decide +kernel, by decide +kernel, by decide +kernel, by decide +kernel⟩, rfl, Nat.le_of_ble_eq_true rfl⟩
theorem x_c163 : x_cOK (10087, 0, mX8_leastWinningRate, 3) := ⟨x_m_X8_leastWinningRate, fun _ => by decide, ⟨x_tbm 1056 (by decide +kernel) rfl, x_tbm 1057 (by decide +kernel) rfl, x_tbm 1058 (by decide +kernel) rfl, ⟨(RX8, TX8, 4), rfl, rfl⟩, rfl⟩⟩
set_option maxRecDepth 100000 in
theorem x_m_X0_leastRateToWin : x_mOK mX0_leastRateToWin 3 := ⟨x_tbm 1063 rfl rfl, x_tbm 59 (by decide +kernel) rfl, ⟨by decide +kernel, by decide +kernel, by decide +kernel, by decide +kernel⟩, rfl, Nat.le_of_ble_eq_true rfl⟩
theorem x_c164 : x_cOK (8218, 0, mX0_leastRateToWin, 4) := ⟨x_m_X0_leastRateToWin, fun _ => by decide, ⟨x_tbm 1060 (by decide +kernel) rfl, x_tbm 1061 (by decide +kernel) rfl, x_tbm 1062 (by decide +kernel) rfl, ⟨(RX0, TX0, 6), rfl, rfl⟩, rfl⟩⟩
set_option maxRecDepth 100000 in
theorem x_m_X0_leastValueToWin : x_mOK mX0_leastValueToWin 2 := ⟨x_tbm 1067 rfl rfl, x_tbm 59 (by decide +kernel) rfl, ⟨by decide +kernel, by decide +kernel, by decide +kernel, by decide +kernel⟩, rfl, Nat.le_of_ble_eq_true rfl⟩
theorem x_c165 : x_cOK (110, 0, mX0_leastValueToWin, 3) := ⟨x_m_X0_leastValueToWin, fun _ => by decide, ⟨x_tbm 1064 (by decide +kernel) rfl, x_tbm 1065 (by decide +kernel) rfl, x_tbm 1066 (by decide +kernel) rfl, ⟨(RX0, TX0, 6), rfl, rfl⟩, rfl⟩⟩
set_option maxRecDepth 100000 in
theorem x_m_J9_max_f86c9 : x_mOK mJ9_max_f86c9 2 := ⟨x_tbm 1070 rfl rfl, x_tbm 56 (by decide +kernel) rfl, ⟨by decide +kernel, by decide +kernel, by decide +kernel, by decide +kernel⟩, rfl, Nat.le_of_ble_eq_true rfl⟩
theorem x_c166 : x_cOK (116, 1, mJ9_max_f86c9, 2) := ⟨x_m_J9_max_f86c9, fun _ => by decide, ⟨x_tbm 1068 (by decide +kernel) rfl, x_tbm 1069 (by decide +kernel) rfl, rfl⟩⟩
set_option maxRecDepth 100000 in
theorem x_m_L_award : x_mOK mL_award 2 := ⟨x_tbm 1074 rfl rfl, x_tbm 50 (by decide +kernel) rfl, ⟨by decide +kernel, by decide +kernel, by decide +kernel, by decide +kernel⟩, rfl, Nat.le_of_ble_eq_true rfl⟩
theorem x_c167 : x_cOK (10245, 4, mL_award, 2) := ⟨x_m_L_award, fun _ => by decide, ⟨x_tbm 1072 (by decide +kernel) rfl, x_tbm 1073 (by decide +kernel) rfl, fun h => by cases h⟩⟩
set_option maxRecDepth 100000 in
theorem x_m_X8_award : x_mOK mX8_award 0 := ⟨x_tbm 1078 rfl rfl, x_tbm 51 (by decide +kernel) rfl, ⟨by decide +kernel, by decide +kernel, by decide +kernel, by decide +kernel⟩, rfl, Nat.le_of_ble_eq_true rfl⟩
theorem x_c168 : x_cOK (10090, 0, mX8_award, 1) := ⟨x_m_X8_award, fun _ => by decide, ⟨x_tbm 1075 (by decide +kernel) rfl, x_tbm 1076 (by decide +kernel) rfl, x_tbm 1077 (by decide +kernel) rfl, ⟨(RX8, TX8, 4), rfl, rfl⟩, rfl⟩⟩
set_option maxRecDepth 100000 in
theorem x_m_X6_beginContract : x_mOK mX6_beginContract 1 := ⟨x_tbm 1082 rfl rfl, x_tbm 54 (by decide +kernel) rfl, ⟨by decide +kernel, by decide +kernel, by decide +kernel, by decide +kernel⟩, rfl, Nat.le_of_ble_eq_true rfl⟩
theorem x_c169 : x_cOK (8221, 0, mX6_beginContract, 2) := ⟨x_m_X6_beginContract, fun _ => by decide, ⟨x_tbm 1079 (by decide +kernel) rfl, x_tbm 1080 (by decide +kernel) rfl, x_tbm 1081 (by decide +kernel) rfl, ⟨(RX6, TX6, 6), rfl, rfl⟩, rfl⟩⟩
theorem x_c170 : x_cOK (6105, 0, mX0_rateOf, 3) := ⟨x_m_X0_rateOf, fun _ => by decide, ⟨x_tbm 1083 (by decide +kernel) rfl, x_tbm 893 (by decide +kernel) rfl, x_tbm 894 (by decide +kernel) rfl, ⟨(RX0, TX0, 6), rfl, rfl⟩, rfl⟩⟩
set_option maxRecDepth 100000 in
theorem x_m_L_setIndex : x_mOK mL_setIndex 4 := ⟨x_tbm 1086 rfl rfl, x_tbm 50 (by decide +kernel) rfl, ⟨by decide +kernel, by decide +kernel, by decide +kernel, by decide +kernel⟩, rfl, Nat.le_of_ble_eq_true rfl⟩
theorem x_c171 : x_cOK (10248, 4, mL_setIndex, 4) := ⟨x_m_L_setIndex, fun _ => by decide, ⟨x_tbm 1084 (by decide +kernel) rfl, x_tbm 1085 (by decide +kernel) rfl, fun h => by cases h⟩⟩
set_option maxRecDepth 100000 in
theorem x_m_X8_setIndex : x_mOK mX8_setIndex 3 := ⟨x_tbm 1090 rfl rfl, x_tbm 51 (by decide +kernel) rfl, ⟨by decide +kernel, by decide +kernel, by decide +kernel, by decide +kernel⟩, rfl, Nat.le_of_ble_eq_true rfl⟩
theorem x_c172 : x_cOK (10093, 0, mX8_setIndex, 4) := ⟨x_m_X8_setIndex, fun _ => by decide, ⟨x_tbm 1087 (by decide +kernel) rfl, x_tbm 1088 (by decide +kernel) rfl, x_tbm 1089 (by decide +kernel) rfl, ⟨(RX8, TX8, 4), rfl, rfl⟩, rfl⟩⟩
set_option maxRecDepth 100000 in
theorem x_m_X8_isQuarter : x_mOK mX8_isQuarter 1 := ⟨x_tbm 1093 rfl rfl, x_tbm 51 (by decide +kernel) rfl, ⟨by decide +kernel, by decide +kernel, by decide +kernel, by decide +kernel⟩, rfl, Nat.le_of_ble_eq_true rfl⟩
theorem x_c173 : x_cOK (8224, 1, mX8_isQuarter, 1) := ⟨x_m_X8_isQuarter, fun _ => by decide, ⟨x_tbm 1091 (by decide +kernel) rfl, x_tbm 1092 (by decide +kernel) rfl, rfl⟩⟩
set_option maxRecDepth 100000 in
theorem x_m_X1_setIndexOf : x_mOK mX1_setIndexOf 3 := ⟨x_tbm 1097 rfl rfl, x_tbm 60 (by decide +kernel) rfl, ⟨by decide +kernel, by decide +kernel, by decide +kernel, by decide +kernel⟩, rfl, Nat.le_of_ble_eq_true rfl⟩
theorem x_c174 : x_cOK (8231, 0, mX1_setIndexOf, 4) := ⟨x_m_X1_setIndexOf, fun _ => by decide, ⟨x_tbm 1094 (by decide +kernel) rfl, x_tbm 1095 (by decide +kernel) rfl, x_tbm 1096 (by decide +kernel) rfl, ⟨(RX1, TX1, 8), rfl, rfl⟩, rfl⟩⟩
set_option maxRecDepth 100000 in
theorem x_m_L_rate : x_mOK mL_rate 4 := ⟨x_tbm 1100 rfl rfl, x_tbm 50 (by decide +kernel) rfl, ⟨by decide +kernel, by decide +kernel, by decide +kernel, by decide +kernel⟩, rfl, Nat.le_of_ble_eq_true rfl⟩
theorem x_c175 : x_cOK (10252, 4, mL_rate, 4) := ⟨x_m_L_rate, fun _ => by decide, ⟨x_tbm 1098 (by decide +kernel) rfl, x_tbm 1099 (by decide +kernel) rfl, fun h => by cases h⟩⟩
set_option maxRecDepth 100000 in
theorem x_m_X8_rate : x_mOK mX8_rate 2 := ⟨x_tbm 1104 rfl rfl, x_tbm 51 (by decide +kernel) rfl, ⟨by decide +kernel, by decide +kernel, by decide +kernel, by decide +kernel⟩, rfl, Nat.le_of_ble_eq_true rfl⟩
theorem x_c176 : x_cOK (10097, 0, mX8_rate, 3) := ⟨x_m_X8_rate, fun _ => by decide, ⟨x_tbm 1101 (by decide +kernel) rfl, x_tbm 1102 (by decide +kernel) rfl, x_tbm 1103 (by decide +kernel) rfl, ⟨(RX8, TX8, 4), rfl, rfl⟩, rfl⟩⟩
set_option maxRecDepth 100000 in
theorem x_m_X6_hasContract : x_mOK mX6_hasContract 0 := ⟨x_tbm 1108 rfl rfl, x_tbm 54 (by decide +kernel) rfl, ⟨by decide +kernel, by decide +kernel, by decide +kernel, by decide +kernel⟩, rfl, Nat.le_of_ble_eq_true rfl⟩
theorem x_c177 : x_cOK (8236, 0, mX6_hasContract, 1) := ⟨x_m_X6_hasContract, fun _ => by decide, ⟨x_tbm 1105 (by decide +kernel) rfl, x_tbm 1106 (by decide +kernel) rfl, x_tbm 1107 (by decide +kernel) rfl, ⟨(RX6, TX6, 6), rfl, rfl⟩, rfl⟩⟩
theorem x_c178 : x_cOK (8239, 0, mX1_adjustedRate, 4) := ⟨x_m_X1_adjustedRate, fun _ => by decide, ⟨x_tbm 1109 (by decide +kernel) rfl, x_tbm 409 (by decide +kernel) rfl, x_tbm 410 (by decide +kernel) rfl, ⟨(RX1, TX1, 8), rfl, rfl⟩, rfl⟩⟩
set_option maxRecDepth 100000 in
theorem x_m_L_indexFor : x_mOK mL_indexFor 4 := ⟨x_tbm 1112 rfl rfl, x_tbm 50 (by decide +kernel) rfl, ⟨by decide +kernel, by decide +kernel, by decide +kernel, by decide +kernel⟩, rfl, Nat.le_of_ble_eq_true rfl⟩
theorem x_c179 : x_cOK (10255, 4, mL_indexFor, 4) := ⟨x_m_L_indexFor, fun _ => by decide, ⟨x_tbm 1110 (by decide +kernel) rfl, x_tbm 1111 (by decide +kernel) rfl, fun h => by cases h⟩⟩
set_option maxRecDepth 100000 in
theorem x_m_X8_indexFor : x_mOK mX8_indexFor 2 := ⟨x_tbm 1116 rfl rfl, x_tbm 51 (by decide +kernel) rfl, ⟨by decide +kernel, by decide +kernel, by decide +kernel, by decide +kernel⟩, rfl, Nat.le_of_ble_eq_true rfl⟩
theorem x_c180 : x_cOK (10100, 0, mX8_indexFor, 3) := ⟨x_m_X8_indexFor, fun _ => by decide, ⟨x_tbm 1113 (by decide +kernel) rfl, x_tbm 1114 (by decide +kernel) rfl, x_tbm 1115 (by decide +kernel) rfl, ⟨(RX8, TX8, 4), rfl, rfl⟩, rfl⟩⟩
set_option maxRecDepth 100000 in
theorem x_m_X1_leastIndexFor : x_mOK mX1_leastIndexFor 3 := ⟨x_tbm 1120 rfl rfl, x_tbm 60 (by decide +kernel) rfl, ⟨by decide +kernel, by decide +kernel, by decide +kernel, by decide +kernel⟩, rfl, Nat.le_of_ble_eq_true rfl⟩
theorem x_c181 : x_cOK (8242, 0, mX1_leastIndexFor, 4) := ⟨x_m_X1_leastIndexFor, fun _ => by decide, ⟨x_tbm 1117 (by decide +kernel) rfl, x_tbm 1118 (by decide +kernel) rfl, x_tbm 1119 (by decide +kernel) rfl, ⟨(RX1, TX1, 8), rfl, rfl⟩, rfl⟩⟩
set_option maxRecDepth 100000 in
theorem x_m_L_scale : x_mOK mL_scale 5 := ⟨x_tbm 1123 rfl rfl, x_tbm 50 (by decide +kernel) rfl, ⟨by decide +kernel, by decide +kernel, by decide +kernel, by decide +kernel⟩, rfl, Nat.le_of_ble_eq_true rfl⟩
theorem x_c182 : x_cOK (10258, 4, mL_scale, 5) := ⟨x_m_L_scale, fun _ => by decide, ⟨x_tbm 1121 (by decide +kernel) rfl, x_tbm 1122 (by decide +kernel) rfl, fun h => by cases h⟩⟩
set_option maxRecDepth 100000 in
theorem x_m_X8_scale : x_mOK mX8_scale 3 := ⟨x_tbm 1127 rfl rfl, x_tbm 51 (by decide +kernel) rfl, ⟨by decide +kernel, by decide +kernel, by decide +kernel, by decide +kernel⟩, rfl, Nat.le_of_ble_eq_true rfl⟩
theorem x_c183 : x_cOK (10103, 0, mX8_scale, 4) := ⟨x_m_X8_scale, fun _ => by decide, ⟨x_tbm 1124 (by decide +kernel) rfl, x_tbm 1125 (by decide +kernel) rfl, x_tbm 1126 (by decide +kernel) rfl, ⟨(RX8, TX8, 4), rfl, rfl⟩, rfl⟩⟩
set_option maxRecDepth 100000 in
theorem x_m_X8_netVolume : x_mOK mX8_netVolume 2 := ⟨x_tbm 1130 rfl rfl, x_tbm 51 (by decide +kernel) rfl, ⟨by decide +kernel, by decide +kernel, by decide +kernel, by decide +kernel⟩, rfl, Nat.le_of_ble_eq_true rfl⟩
theorem x_c184 : x_cOK (8257, 1, mX8_netVolume, 2) := ⟨x_m_X8_netVolume, fun _ => by decide, ⟨x_tbm 1128 (by decide +kernel) rfl, x_tbm 1129 (by decide +kernel) rfl, rfl⟩⟩
set_option maxRecDepth 100000 in
theorem x_m_X4_add : x_mOK mX4_add 3 := ⟨x_tbm 1134 rfl rfl, x_tbm 61 (by decide +kernel) rfl, ⟨by decide +kernel, by decide +kernel, by decide +kernel, by decide +kernel⟩, rfl, Nat.le_of_ble_eq_true rfl⟩
theorem x_c185 : x_cOK (8260, 0, mX4_add, 4) := ⟨x_m_X4_add, fun _ => by decide, ⟨x_tbm 1131 (by decide +kernel) rfl, x_tbm 1132 (by decide +kernel) rfl, x_tbm 1133 (by decide +kernel) rfl, ⟨(RX4, TX4, 7), rfl, rfl⟩, rfl⟩⟩
set_option maxRecDepth 100000 in
theorem x_m_L_check : x_mOK mL_check 5 := ⟨x_tbm 1137 rfl rfl, x_tbm 50 (by decide +kernel) rfl, ⟨by decide +kernel, by decide +kernel, by decide +kernel, by decide +kernel⟩, rfl, Nat.le_of_ble_eq_true rfl⟩
theorem x_c186 : x_cOK (10261, 4, mL_check, 5) := ⟨x_m_L_check, fun _ => by decide, ⟨x_tbm 1135 (by decide +kernel) rfl, x_tbm 1136 (by decide +kernel) rfl, fun h => by cases h⟩⟩
set_option maxRecDepth 100000 in
theorem x_m_X8_check : x_mOK mX8_check 3 := ⟨x_tbm 1141 rfl rfl, x_tbm 51 (by decide +kernel) rfl, ⟨by decide +kernel, by decide +kernel, by decide +kernel, by decide +kernel⟩, rfl, Nat.le_of_ble_eq_true rfl⟩
theorem x_c187 : x_cOK (10106, 0, mX8_check, 4) := ⟨x_m_X8_check, fun _ => by decide, ⟨x_tbm 1138 (by decide +kernel) rfl, x_tbm 1139 (by decide +kernel) rfl, x_tbm 1140 (by decide +kernel) rfl, ⟨(RX8, TX8, 4), rfl, rfl⟩, rfl⟩⟩
set_option maxRecDepth 100000 in
theorem x_m_X8_isLoad : x_mOK mX8_isLoad 1 := ⟨x_tbm 1145 rfl rfl, x_tbm 51 (by decide +kernel) rfl, ⟨by decide +kernel, by decide +kernel, by decide +kernel, by decide +kernel⟩, rfl, Nat.le_of_ble_eq_true rfl⟩
theorem x_c188 : x_cOK (8262, 0, mX8_isLoad, 2) := ⟨x_m_X8_isLoad, fun _ => by decide, ⟨x_tbm 1142 (by decide +kernel) rfl, x_tbm 1144 (by decide +kernel) rfl, x_tbm 5 (by decide +kernel) rfl, ⟨(RX8, TX8, 4), rfl, rfl⟩, rfl⟩⟩
set_option maxRecDepth 100000 in
theorem x_m_X4_isChecked : x_mOK mX4_isChecked 1 := ⟨x_tbm 1149 rfl rfl, x_tbm 61 (by decide +kernel) rfl, ⟨by decide +kernel, by decide +kernel, by decide +kernel, by decide +kernel⟩, rfl, Nat.le_of_ble_eq_true rfl⟩
theorem x_c189 : x_cOK (8265, 0, mX4_isChecked, 2) := ⟨x_m_X4_isChecked, fun _ => by decide, ⟨x_tbm 1146 (by decide +kernel) rfl, x_tbm 1147 (by decide +kernel) rfl, x_tbm 1148 (by decide +kernel) rfl, ⟨(RX4, TX4, 7), rfl, rfl⟩, rfl⟩⟩
set_option maxRecDepth 100000 in
theorem x_m_X4_setCheck : x_mOK mX4_setCheck 2 := ⟨x_tbm 1153 rfl rfl, x_tbm 61 (by decide +kernel) rfl, ⟨by decide +kernel, by decide +kernel, by decide +kernel, by decide +kernel⟩, rfl, Nat.le_of_ble_eq_true rfl⟩
theorem x_c190 : x_cOK (8268, 0, mX4_setCheck, 3) := ⟨x_m_X4_setCheck, fun _ => by decide, ⟨x_tbm 1150 (by decide +kernel) rfl, x_tbm 1151 (by decide +kernel) rfl, x_tbm 1152 (by decide +kernel) rfl, ⟨(RX4, TX4, 7), rfl, rfl⟩, rfl⟩⟩
set_option maxRecDepth 100000 in
theorem x_m_L_voidLoad : x_mOK mL_voidLoad 3 := ⟨x_tbm 1156 rfl rfl, x_tbm 50 (by decide +kernel) rfl, ⟨by decide +kernel, by decide +kernel, by decide +kernel, by decide +kernel⟩, rfl, Nat.le_of_ble_eq_true rfl⟩
theorem x_c191 : x_cOK (10264, 4, mL_voidLoad, 3) := ⟨x_m_L_voidLoad, fun _ => by decide, ⟨x_tbm 1154 (by decide +kernel) rfl, x_tbm 1155 (by decide +kernel) rfl, fun h => by cases h⟩⟩
set_option maxRecDepth 100000 in
theorem x_m_X8_voidLoad : x_mOK mX8_voidLoad 1 := ⟨x_tbm 1160 rfl rfl, x_tbm 51 (by decide +kernel) rfl, ⟨by decide +kernel, by decide +kernel, by decide +kernel, by decide +kernel⟩, rfl, Nat.le_of_ble_eq_true rfl⟩
theorem x_c192 : x_cOK (10109, 0, mX8_voidLoad, 2) := ⟨x_m_X8_voidLoad, fun _ => by decide, ⟨x_tbm 1157 (by decide +kernel) rfl, x_tbm 1158 (by decide +kernel) rfl, x_tbm 1159 (by decide +kernel) rfl, ⟨(RX8, TX8, 4), rfl, rfl⟩, rfl⟩⟩
set_option maxRecDepth 100000 in
theorem x_m_X4_remove : x_mOK mX4_remove 1 := ⟨x_tbm 1164 rfl rfl, x_tbm 61 (by decide +kernel) rfl, ⟨by decide +kernel, by decide +kernel, by decide +kernel, by decide +kernel⟩, rfl, Nat.le_of_ble_eq_true rfl⟩
theorem x_c193 : x_cOK (8277, 0, mX4_remove, 2) := ⟨x_m_X4_remove, fun _ => by decide, ⟨x_tbm 1161 (by decide +kernel) rfl, x_tbm 1162 (by decide +kernel) rfl, x_tbm 1163 (by decide +kernel) rfl, ⟨(RX4, TX4, 7), rfl, rfl⟩, rfl⟩⟩
set_option maxRecDepth 100000 in
theorem x_m_X4_closeGap : x_mOK mX4_closeGap 2 := ⟨x_tbm 1168 rfl rfl, x_tbm 61 (by decide +kernel) rfl, ⟨by decide +kernel, by decide +kernel, by decide +kernel, by decide +kernel⟩, rfl, Nat.le_of_ble_eq_true rfl⟩
theorem x_c194 : x_cOK (4038, 0, mX4_closeGap, 3) := ⟨x_m_X4_closeGap, fun _ => by decide, ⟨x_tbm 1165 (by decide +kernel) rfl, x_tbm 1166 (by decide +kernel) rfl, x_tbm 1167 (by decide +kernel) rfl, ⟨(RX4, TX4, 7), rfl, rfl⟩, rfl⟩⟩
set_option maxRecDepth 100000 in
theorem x_m_L_worstCheck : x_mOK mL_worstCheck 2 := ⟨x_tbm 1172 rfl rfl, x_tbm 50 (by decide +kernel) rfl, ⟨by decide +kernel, by decide +kernel, by decide +kernel, by decide +kernel⟩, rfl, Nat.le_of_ble_eq_true rfl⟩
theorem x_c195 : x_cOK (10267, 4, mL_worstCheck, 2) := ⟨x_m_L_worstCheck, fun _ => by decide, ⟨x_tbm 1170 (by decide +kernel) rfl, x_tbm 1171 (by decide +kernel) rfl, fun h => by cases h⟩⟩
set_option maxRecDepth 100000 in
theorem x_m_X8_worstCheck : x_mOK mX8_worstCheck 0 := ⟨x_tbm 1176 rfl rfl, x_tbm 51 (by decide +kernel) rfl, ⟨by decide +kernel, by decide +kernel, by decide +kernel, by decide +kernel⟩, rfl, Nat.le_of_ble_eq_true rfl⟩
theorem x_c196 : x_cOK (10112, 0, mX8_worstCheck, 1) := ⟨x_m_X8_worstCheck, fun _ => by decide, ⟨x_tbm 1173 (by decide +kernel) rfl, x_tbm 1174 (by decide +kernel) rfl, x_tbm 1175 (by decide +kernel) rfl, ⟨(RX8, TX8, 4), rfl, rfl⟩, rfl⟩⟩
set_option maxRecDepth 100000 in
theorem x_m_X4_worstChecked : x_mOK mX4_worstChecked 0 := ⟨x_tbm 1180 rfl rfl, x_tbm 61 (by decide +kernel) rfl, ⟨by decide +kernel, by decide +kernel, by decide +kernel, by decide +kernel⟩, rfl, Nat.le_of_ble_eq_true rfl⟩
theorem x_c197 : x_cOK (8278, 0, mX4_worstChecked, 1) := ⟨x_m_X4_worstChecked, fun _ => by decide, ⟨x_tbm 1177 (by decide +kernel) rfl, x_tbm 1178 (by decide +kernel) rfl, x_tbm 1179 (by decide +kernel) rfl, ⟨(RX4, TX4, 7), rfl, rfl⟩, rfl⟩⟩
theorem x_c198 : x_cOK (4048, 0, mX4_isChecked, 2) := ⟨x_m_X4_isChecked, fun _ => by decide, ⟨x_tbm 1181 (by decide +kernel) rfl, x_tbm 1147 (by decide +kernel) rfl, x_tbm 1148 (by decide +kernel) rfl, ⟨(RX4, TX4, 7), rfl, rfl⟩, rfl⟩⟩
set_option maxRecDepth 100000 in
theorem x_m_X4_isWorse : x_mOK mX4_isWorse 2 := ⟨x_tbm 1185 rfl rfl, x_tbm 61 (by decide +kernel) rfl, ⟨by decide +kernel, by decide +kernel, by decide +kernel, by decide +kernel⟩, rfl, Nat.le_of_ble_eq_true rfl⟩
theorem x_c199 : x_cOK (4052, 0, mX4_isWorse, 3) := ⟨x_m_X4_isWorse, fun _ => by decide, ⟨x_tbm 1182 (by decide +kernel) rfl, x_tbm 1183 (by decide +kernel) rfl, x_tbm 1184 (by decide +kernel) rfl, ⟨(RX4, TX4, 7), rfl, rfl⟩, rfl⟩⟩
set_option maxRecDepth 100000 in
theorem x_m_L_scaled : x_mOK mL_scaled 5 := ⟨x_tbm 1188 rfl rfl, x_tbm 50 (by decide +kernel) rfl, ⟨by decide +kernel, by decide +kernel, by decide +kernel, by decide +kernel⟩, rfl, Nat.le_of_ble_eq_true rfl⟩
theorem x_c200 : x_cOK (10270, 4, mL_scaled, 5) := ⟨x_m_L_scaled, fun _ => by decide, ⟨x_tbm 1186 (by decide +kernel) rfl, x_tbm 1187 (by decide +kernel) rfl, fun h => by cases h⟩⟩
set_option maxRecDepth 100000 in
theorem x_m_X8_scaled : x_mOK mX8_scaled 3 := ⟨x_tbm 1192 rfl rfl, x_tbm 51 (by decide +kernel) rfl, ⟨by decide +kernel, by decide +kernel, by decide +kernel, by decide +kernel⟩, rfl, Nat.le_of_ble_eq_true rfl⟩
theorem x_c201 : x_cOK (10115, 0, mX8_scaled, 4) := ⟨x_m_X8_scaled, fun _ => by decide, ⟨x_tbm 1189 (by decide +kernel) rfl, x_tbm 1190 (by decide +kernel) rfl, x_tbm 1191 (by decide +kernel) rfl, ⟨(RX8, TX8, 4), rfl, rfl⟩, rfl⟩⟩
theorem x_c202 : x_cOK (8282, 0, mX4_netSum, 4) := ⟨x_m_X4_netSum, fun _ => by decide, ⟨x_tbm 1193 (by decide +kernel) rfl, x_tbm 405 (by decide +kernel) rfl, x_tbm 406 (by decide +kernel) rfl, ⟨(RX4, TX4, 7), rfl, rfl⟩, rfl⟩⟩
set_option maxRecDepth 100000 in
theorem x_m_L_cutShare : x_mOK mL_cutShare 3 := ⟨x_tbm 1196 rfl rfl, x_tbm 50 (by decide +kernel) rfl, ⟨by decide +kernel, by decide +kernel, by decide +kernel, by decide +kernel⟩, rfl, Nat.le_of_ble_eq_true rfl⟩
theorem x_c203 : x_cOK (10273, 4, mL_cutShare, 3) := ⟨x_m_L_cutShare, fun _ => by decide, ⟨x_tbm 1194 (by decide +kernel) rfl, x_tbm 1195 (by decide +kernel) rfl, fun h => by cases h⟩⟩
set_option maxRecDepth 100000 in
theorem x_m_X8_cutShare : x_mOK mX8_cutShare 1 := ⟨x_tbm 1200 rfl rfl, x_tbm 51 (by decide +kernel) rfl, ⟨by decide +kernel, by decide +kernel, by decide +kernel, by decide +kernel⟩, rfl, Nat.le_of_ble_eq_true rfl⟩
theorem x_c204 : x_cOK (10118, 0, mX8_cutShare, 2) := ⟨x_m_X8_cutShare, fun _ => by decide, ⟨x_tbm 1197 (by decide +kernel) rfl, x_tbm 1198 (by decide +kernel) rfl, x_tbm 1199 (by decide +kernel) rfl, ⟨(RX8, TX8, 4), rfl, rfl⟩, rfl⟩⟩
set_option maxRecDepth 100000 in
theorem x_m_L_net : x_mOK mL_net 3 := ⟨x_tbm 1204 rfl rfl, x_tbm 50 (by decide +kernel) rfl, ⟨by decide +kernel, by decide +kernel, by decide +kernel, by decide +kernel⟩, rfl, Nat.le_of_ble_eq_true rfl⟩
theorem x_c205 : x_cOK (10277, 4, mL_net, 3) := ⟨x_m_L_net, fun _ => by decide, ⟨x_tbm 1202 (by decide +kernel) rfl, x_tbm 1203 (by decide +kernel) rfl, fun h => by cases h⟩⟩
set_option maxRecDepth 100000 in
theorem x_m_X8_net : x_mOK mX8_net 1 := ⟨x_tbm 1208 rfl rfl, x_tbm 51 (by decide +kernel) rfl, ⟨by decide +kernel, by decide +kernel, by decide +kernel, by decide +kernel⟩, rfl, Nat.le_of_ble_eq_true rfl⟩
theorem x_c206 : x_cOK (10122, 0, mX8_net, 2) := ⟨x_m_X8_net, fun _ => by decide, ⟨x_tbm 1205 (by decide +kernel) rfl, x_tbm 1206 (by decide +kernel) rfl, x_tbm 1207 (by decide +kernel) rfl, ⟨(RX8, TX8, 4), rfl, rfl⟩, rfl⟩⟩
set_option maxRecDepth 100000 in
theorem x_m_L_endMonth : x_mOK mL_endMonth 2 := ⟨x_tbm 1211 rfl rfl, x_tbm 50 (by decide +kernel) rfl, ⟨by decide +kernel, by decide +kernel, by decide +kernel, by decide +kernel⟩, rfl, Nat.le_of_ble_eq_true rfl⟩
theorem x_c207 : x_cOK (10289, 4, mL_endMonth, 2) := ⟨x_m_L_endMonth, fun _ => by decide, ⟨x_tbm 1209 (by decide +kernel) rfl, x_tbm 1210 (by decide +kernel) rfl, fun h => by cases h⟩⟩
set_option maxRecDepth 100000 in
theorem x_m_X8_endMonth : x_mOK mX8_endMonth 0 := ⟨x_tbm 1215 rfl rfl, x_tbm 51 (by decide +kernel) rfl, ⟨by decide +kernel, by decide +kernel, by decide +kernel, by decide +kernel⟩, rfl, Nat.le_of_ble_eq_true rfl⟩
theorem x_c208 : x_cOK (10125, 0, mX8_endMonth, 1) := ⟨x_m_X8_endMonth, fun _ => by decide, ⟨x_tbm 1212 (by decide +kernel) rfl, x_tbm 1213 (by decide +kernel) rfl, x_tbm 1214 (by decide +kernel) rfl, ⟨(RX8, TX8, 4), rfl, rfl⟩, rfl⟩⟩
set_option maxRecDepth 100000 in
theorem x_m_X6_bookMonth : x_mOK mX6_bookMonth 0 := ⟨x_tbm 1219 rfl rfl, x_tbm 54 (by decide +kernel) rfl, ⟨by decide +kernel, by decide +kernel, by decide +kernel, by decide +kernel⟩, rfl, Nat.le_of_ble_eq_true rfl⟩
theorem x_c209 : x_cOK (8295, 0, mX6_bookMonth, 1) := ⟨x_m_X6_bookMonth, fun _ => by decide, ⟨x_tbm 1216 (by decide +kernel) rfl, x_tbm 1217 (by decide +kernel) rfl, x_tbm 1218 (by decide +kernel) rfl, ⟨(RX6, TX6, 6), rfl, rfl⟩, rfl⟩⟩
set_option maxRecDepth 100000 in
theorem x_m_X6_withInterest : x_mOK mX6_withInterest 1 := ⟨x_tbm 1223 rfl rfl, x_tbm 54 (by decide +kernel) rfl, ⟨by decide +kernel, by decide +kernel, by decide +kernel, by decide +kernel⟩, rfl, Nat.le_of_ble_eq_true rfl⟩
theorem x_c210 : x_cOK (6147, 0, mX6_withInterest, 2) := ⟨x_m_X6_withInterest, fun _ => by decide, ⟨x_tbm 1220 (by decide +kernel) rfl, x_tbm 1221 (by decide +kernel) rfl, x_tbm 1222 (by decide +kernel) rfl, ⟨(RX6, TX6, 6), rfl, rfl⟩, rfl⟩⟩
set_option maxRecDepth 100000 in
theorem x_m_L_charge : x_mOK mL_charge 3 := ⟨x_tbm 1227 rfl rfl, x_tbm 50 (by decide +kernel) rfl, ⟨by decide +kernel, by decide +kernel, by decide +kernel, by decide +kernel⟩, rfl, Nat.le_of_ble_eq_true rfl⟩
theorem x_c211 : x_cOK (10292, 4, mL_charge, 3) := ⟨x_m_L_charge, fun _ => by decide, ⟨x_tbm 1225 (by decide +kernel) rfl, x_tbm 1226 (by decide +kernel) rfl, fun h => by cases h⟩⟩
set_option maxRecDepth 100000 in
theorem x_m_X8_charge : x_mOK mX8_charge 1 := ⟨x_tbm 1231 rfl rfl, x_tbm 51 (by decide +kernel) rfl, ⟨by decide +kernel, by decide +kernel, by decide +kernel, by decide +kernel⟩, rfl, Nat.le_of_ble_eq_true rfl⟩
theorem x_c212 : x_cOK (10129, 0, mX8_charge, 2) := ⟨x_m_X8_charge, fun _ => by decide, ⟨x_tbm 1228 (by decide +kernel) rfl, x_tbm 1229 (by decide +kernel) rfl, x_tbm 1230 (by decide +kernel) rfl, ⟨(RX8, TX8, 4), rfl, rfl⟩, rfl⟩⟩
theorem x_c213 : x_cOK (8302, 0, mX6_chargeOf, 2) := ⟨x_m_X6_chargeOf, fun _ => by decide, ⟨x_tbm 1232 (by decide +kernel) rfl, x_tbm 398 (by decide +kernel) rfl, x_tbm 399 (by decide +kernel) rfl, ⟨(RX6, TX6, 6), rfl, rfl⟩, rfl⟩⟩
set_option maxRecDepth 100000 in
theorem x_m_L_pay : x_mOK mL_pay 3 := ⟨x_tbm 1235 rfl rfl, x_tbm 50 (by decide +kernel) rfl, ⟨by decide +kernel, by decide +kernel, by decide +kernel, by decide +kernel⟩, rfl, Nat.le_of_ble_eq_true rfl⟩
theorem x_c214 : x_cOK (10295, 4, mL_pay, 3) := ⟨x_m_L_pay, fun _ => by decide, ⟨x_tbm 1233 (by decide +kernel) rfl, x_tbm 1234 (by decide +kernel) rfl, fun h => by cases h⟩⟩
set_option maxRecDepth 100000 in
theorem x_m_X8_pay : x_mOK mX8_pay 1 := ⟨x_tbm 1239 rfl rfl, x_tbm 51 (by decide +kernel) rfl, ⟨by decide +kernel, by decide +kernel, by decide +kernel, by decide +kernel⟩, rfl, Nat.le_of_ble_eq_true rfl⟩
theorem x_c215 : x_cOK (10132, 0, mX8_pay, 2) := ⟨x_m_X8_pay, fun _ => by decide, ⟨x_tbm 1236 (by decide +kernel) rfl, x_tbm 1237 (by decide +kernel) rfl, x_tbm 1238 (by decide +kernel) rfl, ⟨(RX8, TX8, 4), rfl, rfl⟩, rfl⟩⟩
set_option maxRecDepth 100000 in
theorem x_m_L_projectedDebt : x_mOK mL_projectedDebt 3 := ⟨x_tbm 1242 rfl rfl, x_tbm 50 (by decide +kernel) rfl, ⟨by decide +kernel, by decide +kernel, by decide +kernel, by decide +kernel⟩, rfl, Nat.le_of_ble_eq_true rfl⟩
theorem x_c216 : x_cOK (10302, 4, mL_projectedDebt, 3) := ⟨x_m_L_projectedDebt, fun _ => by decide, ⟨x_tbm 1240 (by decide +kernel) rfl, x_tbm 1241 (by decide +kernel) rfl, fun h => by cases h⟩⟩
set_option maxRecDepth 100000 in
theorem x_m_X8_projectedDebt : x_mOK mX8_projectedDebt 1 := ⟨x_tbm 1246 rfl rfl, x_tbm 51 (by decide +kernel) rfl, ⟨by decide +kernel, by decide +kernel, by decide +kernel, by decide +kernel⟩, rfl, Nat.le_of_ble_eq_true rfl⟩
theorem x_c217 : x_cOK (10135, 0, mX8_projectedDebt, 2) := ⟨x_m_X8_projectedDebt, fun _ => by decide, ⟨x_tbm 1243 (by decide +kernel) rfl, x_tbm 1244 (by decide +kernel) rfl, x_tbm 1245 (by decide +kernel) rfl, ⟨(RX8, TX8, 4), rfl, rfl⟩, rfl⟩⟩
theorem x_c218 : x_cOK (8305, 0, mX6_withInterest, 2) := ⟨x_m_X6_withInterest, fun _ => by decide, ⟨x_tbm 1247 (by decide +kernel) rfl, x_tbm 1221 (by decide +kernel) rfl, x_tbm 1222 (by decide +kernel) rfl, ⟨(RX6, TX6, 6), rfl, rfl⟩, rfl⟩⟩
set_option maxRecDepth 100000 in
theorem x_m_L_close : x_mOK mL_close 2 := ⟨x_tbm 1250 rfl rfl, x_tbm 50 (by decide +kernel) rfl, ⟨by decide +kernel, by decide +kernel, by decide +kernel, by decide +kernel⟩, rfl, Nat.le_of_ble_eq_true rfl⟩
theorem x_c219 : x_cOK (10309, 4, mL_close, 2) := ⟨x_m_L_close, fun _ => by decide, ⟨x_tbm 1248 (by decide +kernel) rfl, x_tbm 1249 (by decide +kernel) rfl, fun h => by cases h⟩⟩
set_option maxRecDepth 100000 in
theorem x_m_X8_close : x_mOK mX8_close 0 := ⟨x_tbm 1254 rfl rfl, x_tbm 51 (by decide +kernel) rfl, ⟨by decide +kernel, by decide +kernel, by decide +kernel, by decide +kernel⟩, rfl, Nat.le_of_ble_eq_true rfl⟩
theorem x_c220 : x_cOK (10138, 0, mX8_close, 1) := ⟨x_m_X8_close, fun _ => by decide, ⟨x_tbm 1251 (by decide +kernel) rfl, x_tbm 1252 (by decide +kernel) rfl, x_tbm 1253 (by decide +kernel) rfl, ⟨(RX8, TX8, 4), rfl, rfl⟩, rfl⟩⟩
set_option maxRecDepth 100000 in
theorem x_m_X6_closeContract : x_mOK mX6_closeContract 0 := ⟨x_tbm 1258 rfl rfl, x_tbm 54 (by decide +kernel) rfl, ⟨by decide +kernel, by decide +kernel, by decide +kernel, by decide +kernel⟩, rfl, Nat.le_of_ble_eq_true rfl⟩
theorem x_c221 : x_cOK (8313, 0, mX6_closeContract, 1) := ⟨x_m_X6_closeContract, fun _ => by decide, ⟨x_tbm 1255 (by decide +kernel) rfl, x_tbm 1256 (by decide +kernel) rfl, x_tbm 1257 (by decide +kernel) rfl, ⟨(RX6, TX6, 6), rfl, rfl⟩, rfl⟩⟩
theorem x_c222 : x_cOK (6151, 0, mX6_bookMonth, 1) := ⟨x_m_X6_bookMonth, fun _ => by decide, ⟨x_tbm 1259 (by decide +kernel) rfl, x_tbm 1217 (by decide +kernel) rfl, x_tbm 1218 (by decide +kernel) rfl, ⟨(RX6, TX6, 6), rfl, rfl⟩, rfl⟩⟩
theorem x_c223 : x_cOK (6154, 0, mX6_unbooked, 1) := ⟨x_m_X6_unbooked, fun _ => by decide, ⟨x_tbm 1260 (by decide +kernel) rfl, x_tbm 394 (by decide +kernel) rfl, x_tbm 395 (by decide +kernel) rfl, ⟨(RX6, TX6, 6), rfl, rfl⟩, rfl⟩⟩
set_option maxRecDepth 100000 in
theorem x_m_L_remaining : x_mOK mL_remaining 3 := ⟨x_tbm 1263 rfl rfl, x_tbm 50 (by decide +kernel) rfl, ⟨by decide +kernel, by decide +kernel, by decide +kernel, by decide +kernel⟩, rfl, Nat.le_of_ble_eq_true rfl⟩
theorem x_c224 : x_cOK (10312, 4, mL_remaining, 3) := ⟨x_m_L_remaining, fun _ => by decide, ⟨x_tbm 1261 (by decide +kernel) rfl, x_tbm 1262 (by decide +kernel) rfl, fun h => by cases h⟩⟩
set_option maxRecDepth 100000 in
theorem x_m_X8_remaining : x_mOK mX8_remaining 1 := ⟨x_tbm 1267 rfl rfl, x_tbm 51 (by decide +kernel) rfl, ⟨by decide +kernel, by decide +kernel, by decide +kernel, by decide +kernel⟩, rfl, Nat.le_of_ble_eq_true rfl⟩
theorem x_c225 : x_cOK (10141, 0, mX8_remaining, 2) := ⟨x_m_X8_remaining, fun _ => by decide, ⟨x_tbm 1264 (by decide +kernel) rfl, x_tbm 1265 (by decide +kernel) rfl, x_tbm 1266 (by decide +kernel) rfl, ⟨(RX8, TX8, 4), rfl, rfl⟩, rfl⟩⟩
theorem x_c226 : x_cOK (8316, 0, mX6_remainingOf, 2) := ⟨x_m_X6_remainingOf, fun _ => by decide, ⟨x_tbm 1268 (by decide +kernel) rfl, x_tbm 860 (by decide +kernel) rfl, x_tbm 861 (by decide +kernel) rfl, ⟨(RX6, TX6, 6), rfl, rfl⟩, rfl⟩⟩
set_option maxRecDepth 100000 in
theorem x_m_L_declareDefault : x_mOK mL_declareDefault 2 := ⟨x_tbm 1271 rfl rfl, x_tbm 50 (by decide +kernel) rfl, ⟨by decide +kernel, by decide +kernel, by decide +kernel, by decide +kernel⟩, rfl, Nat.le_of_ble_eq_true rfl⟩
theorem x_c227 : x_cOK (10315, 4, mL_declareDefault, 2) := ⟨x_m_L_declareDefault, fun _ => by decide, ⟨x_tbm 1269 (by decide +kernel) rfl, x_tbm 1270 (by decide +kernel) rfl, fun h => by cases h⟩⟩
set_option maxRecDepth 100000 in
theorem x_m_X8_declareDefault : x_mOK mX8_declareDefault 0 := ⟨x_tbm 1275 rfl rfl, x_tbm 51 (by decide +kernel) rfl, ⟨by decide +kernel, by decide +kernel, by decide +kernel, by decide +kernel⟩, rfl, Nat.le_of_ble_eq_true rfl⟩
theorem x_c228 : x_cOK (10144, 0, mX8_declareDefault, 1) := ⟨x_m_X8_declareDefault, fun _ => by decide, ⟨x_tbm 1272 (by decide +kernel) rfl, x_tbm 1273 (by decide +kernel) rfl, x_tbm 1274 (by decide +kernel) rfl, ⟨(RX8, TX8, 4), rfl, rfl⟩, rfl⟩⟩
set_option maxRecDepth 100000 in
theorem x_m_X6_isInDefault : x_mOK mX6_isInDefault 0 := ⟨x_tbm 1279 rfl rfl, x_tbm 54 (by decide +kernel) rfl, ⟨by decide +kernel, by decide +kernel, by decide +kernel, by decide +kernel⟩, rfl, Nat.le_of_ble_eq_true rfl⟩
theorem x_c229 : x_cOK (8319, 0, mX6_isInDefault, 1) := ⟨x_m_X6_isInDefault, fun _ => by decide, ⟨x_tbm 1276 (by decide +kernel) rfl, x_tbm 1277 (by decide +kernel) rfl, x_tbm 1278 (by decide +kernel) rfl, ⟨(RX6, TX6, 6), rfl, rfl⟩, rfl⟩⟩
set_option maxRecDepth 100000 in
theorem x_m_X6_remainingSum : x_mOK mX6_remainingSum 0 := ⟨x_tbm 1283 rfl rfl, x_tbm 54 (by decide +kernel) rfl, ⟨by decide +kernel, by decide +kernel, by decide +kernel, by decide +kernel⟩, rfl, Nat.le_of_ble_eq_true rfl⟩
theorem x_c230 : x_cOK (6158, 0, mX6_remainingSum, 1) := ⟨x_m_X6_remainingSum, fun _ => by decide, ⟨x_tbm 1280 (by decide +kernel) rfl, x_tbm 1281 (by decide +kernel) rfl, x_tbm 1282 (by decide +kernel) rfl, ⟨(RX6, TX6, 6), rfl, rfl⟩, rfl⟩⟩
theorem x_c231 : x_cOK (8322, 0, mX6_remainingSum, 1) := ⟨x_m_X6_remainingSum, fun _ => by decide, ⟨x_tbm 1284 (by decide +kernel) rfl, x_tbm 1281 (by decide +kernel) rfl, x_tbm 1282 (by decide +kernel) rfl, ⟨(RX6, TX6, 6), rfl, rfl⟩, rfl⟩⟩
set_option maxRecDepth 100000 in
theorem x_m_L_damages : x_mOK mL_damages 2 := ⟨x_tbm 1287 rfl rfl, x_tbm 50 (by decide +kernel) rfl, ⟨by decide +kernel, by decide +kernel, by decide +kernel, by decide +kernel⟩, rfl, Nat.le_of_ble_eq_true rfl⟩
theorem x_c232 : x_cOK (10318, 4, mL_damages, 2) := ⟨x_m_L_damages, fun _ => by decide, ⟨x_tbm 1285 (by decide +kernel) rfl, x_tbm 1286 (by decide +kernel) rfl, fun h => by cases h⟩⟩
set_option maxRecDepth 100000 in
theorem x_m_X8_damages : x_mOK mX8_damages 0 := ⟨x_tbm 1291 rfl rfl, x_tbm 51 (by decide +kernel) rfl, ⟨by decide +kernel, by decide +kernel, by decide +kernel, by decide +kernel⟩, rfl, Nat.le_of_ble_eq_true rfl⟩
theorem x_c233 : x_cOK (10147, 0, mX8_damages, 1) := ⟨x_m_X8_damages, fun _ => by decide, ⟨x_tbm 1288 (by decide +kernel) rfl, x_tbm 1289 (by decide +kernel) rfl, x_tbm 1290 (by decide +kernel) rfl, ⟨(RX8, TX8, 4), rfl, rfl⟩, rfl⟩⟩
set_option maxRecDepth 100000 in
theorem x_m_X6_lossByResale : x_mOK mX6_lossByResale 0 := ⟨x_tbm 1295 rfl rfl, x_tbm 54 (by decide +kernel) rfl, ⟨by decide +kernel, by decide +kernel, by decide +kernel, by decide +kernel⟩, rfl, Nat.le_of_ble_eq_true rfl⟩
theorem x_c234 : x_cOK (8325, 0, mX6_lossByResale, 1) := ⟨x_m_X6_lossByResale, fun _ => by decide, ⟨x_tbm 1292 (by decide +kernel) rfl, x_tbm 1293 (by decide +kernel) rfl, x_tbm 1294 (by decide +kernel) rfl, ⟨(RX6, TX6, 6), rfl, rfl⟩, rfl⟩⟩
theorem x_c235 : x_cOK (6162, 0, mX0_winner, 2) := ⟨x_m_X0_winner, fun _ => by decide, ⟨x_tbm 1296 (by decide +kernel) rfl, x_tbm 1014 (by decide +kernel) rfl, x_tbm 1015 (by decide +kernel) rfl, ⟨(RX0, TX0, 6), rfl, rfl⟩, rfl⟩⟩
theorem x_c236 : x_cOK (6166, 0, mX0_valueOf, 2) := ⟨x_m_X0_valueOf, fun _ => by decide, ⟨x_tbm 1297 (by decide +kernel) rfl, x_tbm 957 (by decide +kernel) rfl, x_tbm 958 (by decide +kernel) rfl, ⟨(RX0, TX0, 6), rfl, rfl⟩, rfl⟩⟩
set_option maxRecDepth 100000 in
theorem x_m_L_undo : x_mOK mL_undo 2 := ⟨x_tbm 1300 rfl rfl, x_tbm 50 (by decide +kernel) rfl, ⟨by decide +kernel, by decide +kernel, by decide +kernel, by decide +kernel⟩, rfl, Nat.le_of_ble_eq_true rfl⟩
theorem x_c237 : x_cOK (10321, 4, mL_undo, 2) := ⟨x_m_L_undo, fun _ => by decide, ⟨x_tbm 1298 (by decide +kernel) rfl, x_tbm 1299 (by decide +kernel) rfl, fun h => by cases h⟩⟩
set_option maxRecDepth 100000 in
theorem x_m_X8_undo : x_mOK mX8_undo 0 := ⟨x_tbm 1304 rfl rfl, x_tbm 51 (by decide +kernel) rfl, ⟨by decide +kernel, by decide +kernel, by decide +kernel, by decide +kernel⟩, rfl, Nat.le_of_ble_eq_true rfl⟩
theorem x_c238 : x_cOK (10150, 0, mX8_undo, 1) := ⟨x_m_X8_undo, fun _ => by decide, ⟨x_tbm 1301 (by decide +kernel) rfl, x_tbm 1302 (by decide +kernel) rfl, x_tbm 1303 (by decide +kernel) rfl, ⟨(RX8, TX8, 4), rfl, rfl⟩, rfl⟩⟩
set_option maxRecDepth 100000 in
theorem x_m_X3_takeBack : x_mOK mX3_takeBack 1 := ⟨x_tbm 1308 rfl rfl, x_tbm 53 (by decide +kernel) rfl, ⟨by decide +kernel, by decide +kernel, by decide +kernel, by decide +kernel⟩, rfl, Nat.le_of_ble_eq_true rfl⟩
theorem x_c239 : x_cOK (8331, 0, mX3_takeBack, 2) := ⟨x_m_X3_takeBack, fun _ => by decide, ⟨x_tbm 1305 (by decide +kernel) rfl, x_tbm 1306 (by decide +kernel) rfl, x_tbm 1307 (by decide +kernel) rfl, ⟨(RX3, TX3, 3), rfl, rfl⟩, rfl⟩⟩
set_option maxRecDepth 100000 in
theorem x_m_X9_init : x_mOK mX9_init 0 := ⟨x_tbm 1313 rfl rfl, x_tbm 62 (by decide +kernel) rfl, ⟨by decide +kernel, by decide +kernel, by decide +kernel, by decide +kernel⟩, rfl, Nat.le_of_ble_eq_true rfl⟩
theorem x_c240 : x_cOK (10156, 2, mX9_init, 1) := ⟨x_m_X9_init, fun _ => by decide, ⟨x_tbm 1311 (by decide +kernel) rfl, x_tbm 1312 (by decide +kernel) rfl, rfl, rfl, rfl⟩⟩
set_option maxRecDepth 100000 in
theorem x_m_X9_thrown : x_mOK mX9_thrown 0 := ⟨x_tbm 1376 rfl rfl, x_tbm 62 (by decide +kernel) rfl, ⟨by decide +kernel, by decide +kernel, by decide +kernel, by decide +kernel⟩, rfl, Nat.le_of_ble_eq_true rfl⟩
theorem x_c241 : x_cOK (10163, 0, mX9_thrown, 1) := ⟨x_m_X9_thrown, fun _ => by decide, ⟨x_tbm 1373 (by decide +kernel) rfl, x_tbm 1374 (by decide +kernel) rfl, x_tbm 1375 (by decide +kernel) rfl, ⟨(RX9, TX9, 19), rfl, rfl⟩, rfl⟩⟩
set_option maxRecDepth 100000 in
theorem x_m_X9_undo : x_mOK mX9_undo 0 := ⟨x_tbm 1380 rfl rfl, x_tbm 62 (by decide +kernel) rfl, ⟨by decide +kernel, by decide +kernel, by decide +kernel, by decide +kernel⟩, rfl, Nat.le_of_ble_eq_true rfl⟩
theorem x_c242 : x_cOK (10323, 0, mX9_undo, 1) := ⟨x_m_X9_undo, fun _ => by decide, ⟨x_tbm 1377 (by decide +kernel) rfl, x_tbm 1378 (by decide +kernel) rfl, x_tbm 1379 (by decide +kernel) rfl, ⟨(RX9, TX9, 19), rfl, rfl⟩, rfl⟩⟩
set_option maxRecDepth 100000 in
theorem x_m_X9_append : x_mOK mX9_append 5 := ⟨x_tbm 1384 rfl rfl, x_tbm 62 (by decide +kernel) rfl, ⟨by decide +kernel, by decide +kernel, by decide +kernel, by decide +kernel⟩, rfl, Nat.le_of_ble_eq_true rfl⟩
theorem x_c243 : x_cOK (10162, 0, mX9_append, 6) := ⟨x_m_X9_append, fun _ => by decide, ⟨x_tbm 1381 (by decide +kernel) rfl, x_tbm 1382 (by decide +kernel) rfl, x_tbm 1383 (by decide +kernel) rfl, ⟨(RX9, TX9, 19), rfl, rfl⟩, rfl⟩⟩
set_option maxRecDepth 100000 in
theorem x_m_X9_load : x_mOK mX9_load 1 := ⟨x_tbm 1388 rfl rfl, x_tbm 62 (by decide +kernel) rfl, ⟨by decide +kernel, by decide +kernel, by decide +kernel, by decide +kernel⟩, rfl, Nat.le_of_ble_eq_true rfl⟩
theorem x_c244 : x_cOK (10169, 0, mX9_load, 2) := ⟨x_m_X9_load, fun _ => by decide, ⟨x_tbm 1385 (by decide +kernel) rfl, x_tbm 1386 (by decide +kernel) rfl, x_tbm 1387 (by decide +kernel) rfl, ⟨(RX9, TX9, 19), rfl, rfl⟩, rfl⟩⟩
set_option maxRecDepth 100000 in
theorem x_m_X9_isIn : x_mOK mX9_isIn 3 := ⟨x_tbm 1391 rfl rfl, x_tbm 62 (by decide +kernel) rfl, ⟨by decide +kernel, by decide +kernel, by decide +kernel, by decide +kernel⟩, rfl, Nat.le_of_ble_eq_true rfl⟩
theorem x_c245 : x_cOK (9074, 1, mX9_isIn, 3) := ⟨x_m_X9_isIn, fun _ => by decide, ⟨x_tbm 1389 (by decide +kernel) rfl, x_tbm 1390 (by decide +kernel) rfl, rfl⟩⟩
set_option maxRecDepth 100000 in
theorem x_m_X9_next : x_mOK mX9_next 0 := ⟨x_tbm 1395 rfl rfl, x_tbm 62 (by decide +kernel) rfl, ⟨by decide +kernel, by decide +kernel, by decide +kernel, by decide +kernel⟩, rfl, Nat.le_of_ble_eq_true rfl⟩
theorem x_c246 : x_cOK (9107, 0, mX9_next, 1) := ⟨x_m_X9_next, fun _ => by decide, ⟨x_tbm 1392 (by decide +kernel) rfl, x_tbm 1394 (by decide +kernel) rfl, x_tbm 6 (by decide +kernel) rfl, ⟨(RX9, TX9, 19), rfl, rfl⟩, rfl⟩⟩
set_option maxRecDepth 100000 in
theorem x_m_X9_see : x_mOK mX9_see 1 := ⟨x_tbm 1399 rfl rfl, x_tbm 62 (by decide +kernel) rfl, ⟨by decide +kernel, by decide +kernel, by decide +kernel, by decide +kernel⟩, rfl, Nat.le_of_ble_eq_true rfl⟩
theorem x_c247 : x_cOK (9063, 0, mX9_see, 2) := ⟨x_m_X9_see, fun _ => by decide, ⟨x_tbm 1396 (by decide +kernel) rfl, x_tbm 1398 (by decide +kernel) rfl, x_tbm 7 (by decide +kernel) rfl, ⟨(RX9, TX9, 19), rfl, rfl⟩, rfl⟩⟩
set_option maxRecDepth 100000 in
theorem x_m_X9_wordAt : x_mOK mX9_wordAt 0 := ⟨x_tbm 1405 rfl rfl, x_tbm 62 (by decide +kernel) rfl, ⟨by decide +kernel, by decide +kernel, by decide +kernel, by decide +kernel⟩, rfl, Nat.le_of_ble_eq_true rfl⟩
theorem x_c248 : x_cOK (9078, 0, mX9_wordAt, 1) := ⟨x_m_X9_wordAt, fun _ => by decide, ⟨x_tbm 1402 (by decide +kernel) rfl, x_tbm 1404 (by decide +kernel) rfl, x_tbm 8 (by decide +kernel) rfl, ⟨(RX9, TX9, 19), rfl, rfl⟩, rfl⟩⟩
set_option maxRecDepth 100000 in
theorem x_m_X9_readsAll : x_mOK mX9_readsAll 0 := ⟨x_tbm 1416 rfl rfl, x_tbm 62 (by decide +kernel) rfl, ⟨by decide +kernel, by decide +kernel, by decide +kernel, by decide +kernel⟩, rfl, Nat.le_of_ble_eq_true rfl⟩
theorem x_c249 : x_cOK (9125, 0, mX9_readsAll, 1) := ⟨x_m_X9_readsAll, fun _ => by decide, ⟨x_tbm 1413 (by decide +kernel) rfl, x_tbm 1415 (by decide +kernel) rfl, x_tbm 9 (by decide +kernel) rfl, ⟨(RX9, TX9, 19), rfl, rfl⟩, rfl⟩⟩
set_option maxRecDepth 100000 in
theorem x_m_X9_must : x_mOK mX9_must 1 := ⟨x_tbm 1420 rfl rfl, x_tbm 62 (by decide +kernel) rfl, ⟨by decide +kernel, by decide +kernel, by decide +kernel, by decide +kernel⟩, rfl, Nat.le_of_ble_eq_true rfl⟩
theorem x_c250 : x_cOK (9110, 0, mX9_must, 2) := ⟨x_m_X9_must, fun _ => by decide, ⟨x_tbm 1417 (by decide +kernel) rfl, x_tbm 1419 (by decide +kernel) rfl, x_tbm 10 (by decide +kernel) rfl, ⟨(RX9, TX9, 19), rfl, rfl⟩, rfl⟩⟩
set_option maxRecDepth 100000 in
theorem x_m_X9_is : x_mOK mX9_is 1 := ⟨x_tbm 1424 rfl rfl, x_tbm 62 (by decide +kernel) rfl, ⟨by decide +kernel, by decide +kernel, by decide +kernel, by decide +kernel⟩, rfl, Nat.le_of_ble_eq_true rfl⟩
theorem x_c251 : x_cOK (9099, 0, mX9_is, 2) := ⟨x_m_X9_is, fun _ => by decide, ⟨x_tbm 1421 (by decide +kernel) rfl, x_tbm 1423 (by decide +kernel) rfl, x_tbm 11 (by decide +kernel) rfl, ⟨(RX9, TX9, 19), rfl, rfl⟩, rfl⟩⟩
set_option maxRecDepth 100000 in
theorem x_m_X9_fails : x_mOK mX9_fails 1 := ⟨x_tbm 1428 rfl rfl, x_tbm 62 (by decide +kernel) rfl, ⟨by decide +kernel, by decide +kernel, by decide +kernel, by decide +kernel⟩, rfl, Nat.le_of_ble_eq_true rfl⟩
theorem x_c252 : x_cOK (9103, 0, mX9_fails, 2) := ⟨x_m_X9_fails, fun _ => by decide, ⟨x_tbm 1425 (by decide +kernel) rfl, x_tbm 1427 (by decide +kernel) rfl, x_tbm 12 (by decide +kernel) rfl, ⟨(RX9, TX9, 19), rfl, rfl⟩, rfl⟩⟩
set_option maxRecDepth 100000 in
theorem x_m_X9_takes : x_mOK mX9_takes 2 := ⟨x_tbm 1432 rfl rfl, x_tbm 62 (by decide +kernel) rfl, ⟨by decide +kernel, by decide +kernel, by decide +kernel, by decide +kernel⟩, rfl, Nat.le_of_ble_eq_true rfl⟩
theorem x_c253 : x_cOK (9114, 0, mX9_takes, 3) := ⟨x_m_X9_takes, fun _ => by decide, ⟨x_tbm 1429 (by decide +kernel) rfl, x_tbm 1431 (by decide +kernel) rfl, x_tbm 13 (by decide +kernel) rfl, ⟨(RX9, TX9, 19), rfl, rfl⟩, rfl⟩⟩
set_option maxRecDepth 100000 in
theorem x_m_X9_readsSpecies : x_mOK mX9_readsSpecies 0 := ⟨x_tbm 1437 rfl rfl, x_tbm 62 (by decide +kernel) rfl, ⟨by decide +kernel, by decide +kernel, by decide +kernel, by decide +kernel⟩, rfl, Nat.le_of_ble_eq_true rfl⟩
theorem x_c254 : x_cOK (9119, 0, mX9_readsSpecies, 1) := ⟨x_m_X9_readsSpecies, fun _ => by decide, ⟨x_tbm 1434 (by decide +kernel) rfl, x_tbm 1436 (by decide +kernel) rfl, x_tbm 14 (by decide +kernel) rfl, ⟨(RX9, TX9, 19), rfl, rfl⟩, rfl⟩⟩
set_option maxRecDepth 100000 in
theorem x_m_X9_readsPlot : x_mOK mX9_readsPlot 0 := ⟨x_tbm 1442 rfl rfl, x_tbm 62 (by decide +kernel) rfl, ⟨by decide +kernel, by decide +kernel, by decide +kernel, by decide +kernel⟩, rfl, Nat.le_of_ble_eq_true rfl⟩
theorem x_c255 : x_cOK (9122, 0, mX9_readsPlot, 1) := ⟨x_m_X9_readsPlot, fun _ => by decide, ⟨x_tbm 1439 (by decide +kernel) rfl, x_tbm 1441 (by decide +kernel) rfl, x_tbm 15 (by decide +kernel) rfl, ⟨(RX9, TX9, 19), rfl, rfl⟩, rfl⟩⟩
set_option maxRecDepth 100000 in
theorem x_m_X9_keeps : x_mOK mX9_keeps 0 := ⟨x_tbm 1446 rfl rfl, x_tbm 62 (by decide +kernel) rfl, ⟨by decide +kernel, by decide +kernel, by decide +kernel, by decide +kernel⟩, rfl, Nat.le_of_ble_eq_true rfl⟩
theorem x_c256 : x_cOK (9128, 0, mX9_keeps, 1) := ⟨x_m_X9_keeps, fun _ => by decide, ⟨x_tbm 1443 (by decide +kernel) rfl, x_tbm 1445 (by decide +kernel) rfl, x_tbm 16 (by decide +kernel) rfl, ⟨(RX9, TX9, 19), rfl, rfl⟩, rfl⟩⟩
set_option maxRecDepth 100000 in
theorem x_m_X9_errorPosition : x_mOK mX9_errorPosition 0 := ⟨x_tbm 1450 rfl rfl, x_tbm 62 (by decide +kernel) rfl, ⟨by decide +kernel, by decide +kernel, by decide +kernel, by decide +kernel⟩, rfl, Nat.le_of_ble_eq_true rfl⟩
theorem x_c257 : x_cOK (10173, 0, mX9_errorPosition, 1) := ⟨x_m_X9_errorPosition, fun _ => by decide, ⟨x_tbm 1447 (by decide +kernel) rfl, x_tbm 1448 (by decide +kernel) rfl, x_tbm 1449 (by decide +kernel) rfl, ⟨(RX9, TX9, 19), rfl, rfl⟩, rfl⟩⟩
set_option maxRecDepth 100000 in
theorem x_m_X9_phase : x_mOK mX9_phase 0 := ⟨x_tbm 1454 rfl rfl, x_tbm 62 (by decide +kernel) rfl, ⟨by decide +kernel, by decide +kernel, by decide +kernel, by decide +kernel⟩, rfl, Nat.le_of_ble_eq_true rfl⟩
theorem x_c258 : x_cOK (10177, 0, mX9_phase, 1) := ⟨x_m_X9_phase, fun _ => by decide, ⟨x_tbm 1451 (by decide +kernel) rfl, x_tbm 1452 (by decide +kernel) rfl, x_tbm 1453 (by decide +kernel) rfl, ⟨(RX9, TX9, 19), rfl, rfl⟩, rfl⟩⟩
set_option maxRecDepth 100000 in
theorem x_m_X9_plotCount : x_mOK mX9_plotCount 0 := ⟨x_tbm 1458 rfl rfl, x_tbm 62 (by decide +kernel) rfl, ⟨by decide +kernel, by decide +kernel, by decide +kernel, by decide +kernel⟩, rfl, Nat.le_of_ble_eq_true rfl⟩
theorem x_c259 : x_cOK (10181, 0, mX9_plotCount, 1) := ⟨x_m_X9_plotCount, fun _ => by decide, ⟨x_tbm 1455 (by decide +kernel) rfl, x_tbm 1456 (by decide +kernel) rfl, x_tbm 1457 (by decide +kernel) rfl, ⟨(RX9, TX9, 19), rfl, rfl⟩, rfl⟩⟩
set_option maxRecDepth 100000 in
theorem x_m_X9_addPlot : x_mOK mX9_addPlot 6 := ⟨x_tbm 1462 rfl rfl, x_tbm 62 (by decide +kernel) rfl, ⟨by decide +kernel, by decide +kernel, by decide +kernel, by decide +kernel⟩, rfl, Nat.le_of_ble_eq_true rfl⟩
theorem x_c260 : x_cOK (10185, 0, mX9_addPlot, 7) := ⟨x_m_X9_addPlot, fun _ => by decide, ⟨x_tbm 1459 (by decide +kernel) rfl, x_tbm 1460 (by decide +kernel) rfl, x_tbm 1461 (by decide +kernel) rfl, ⟨(RX9, TX9, 19), rfl, rfl⟩, rfl⟩⟩
set_option maxRecDepth 100000 in
theorem x_m_X9_isVolume : x_mOK mX9_isVolume 2 := ⟨x_tbm 1465 rfl rfl, x_tbm 62 (by decide +kernel) rfl, ⟨by decide +kernel, by decide +kernel, by decide +kernel, by decide +kernel⟩, rfl, Nat.le_of_ble_eq_true rfl⟩
theorem x_c261 : x_cOK (9133, 1, mX9_isVolume, 2) := ⟨x_m_X9_isVolume, fun _ => by decide, ⟨x_tbm 1463 (by decide +kernel) rfl, x_tbm 1464 (by decide +kernel) rfl, rfl⟩⟩
set_option maxRecDepth 100000 in
theorem x_m_X9_removePlot : x_mOK mX9_removePlot 1 := ⟨x_tbm 1470 rfl rfl, x_tbm 62 (by decide +kernel) rfl, ⟨by decide +kernel, by decide +kernel, by decide +kernel, by decide +kernel⟩, rfl, Nat.le_of_ble_eq_true rfl⟩
theorem x_c262 : x_cOK (10188, 0, mX9_removePlot, 2) := ⟨x_m_X9_removePlot, fun _ => by decide, ⟨x_tbm 1467 (by decide +kernel) rfl, x_tbm 1468 (by decide +kernel) rfl, x_tbm 1469 (by decide +kernel) rfl, ⟨(RX9, TX9, 19), rfl, rfl⟩, rfl⟩⟩
set_option maxRecDepth 100000 in
theorem x_m_X9_estimate : x_mOK mX9_estimate 2 := ⟨x_tbm 1474 rfl rfl, x_tbm 62 (by decide +kernel) rfl, ⟨by decide +kernel, by decide +kernel, by decide +kernel, by decide +kernel⟩, rfl, Nat.le_of_ble_eq_true rfl⟩
theorem x_c263 : x_cOK (10192, 0, mX9_estimate, 3) := ⟨x_m_X9_estimate, fun _ => by decide, ⟨x_tbm 1471 (by decide +kernel) rfl, x_tbm 1472 (by decide +kernel) rfl, x_tbm 1473 (by decide +kernel) rfl, ⟨(RX9, TX9, 19), rfl, rfl⟩, rfl⟩⟩
set_option maxRecDepth 100000 in
theorem x_m_X9_isAny : x_mOK mX9_isAny 1 := ⟨x_tbm 1478 rfl rfl, x_tbm 62 (by decide +kernel) rfl, ⟨by decide +kernel, by decide +kernel, by decide +kernel, by decide +kernel⟩, rfl, Nat.le_of_ble_eq_true rfl⟩
theorem x_c264 : x_cOK (9151, 0, mX9_isAny, 2) := ⟨x_m_X9_isAny, fun _ => by decide, ⟨x_tbm 1475 (by decide +kernel) rfl, x_tbm 1477 (by decide +kernel) rfl, x_tbm 17 (by decide +kernel) rfl, ⟨(RX9, TX9, 19), rfl, rfl⟩, rfl⟩⟩
set_option maxRecDepth 100000 in
theorem x_m_X9_isSpecies : x_mOK mX9_isSpecies 1 := ⟨x_tbm 1482 rfl rfl, x_tbm 62 (by decide +kernel) rfl, ⟨by decide +kernel, by decide +kernel, by decide +kernel, by decide +kernel⟩, rfl, Nat.le_of_ble_eq_true rfl⟩
theorem x_c265 : x_cOK (9137, 0, mX9_isSpecies, 2) := ⟨x_m_X9_isSpecies, fun _ => by decide, ⟨x_tbm 1479 (by decide +kernel) rfl, x_tbm 1481 (by decide +kernel) rfl, x_tbm 18 (by decide +kernel) rfl, ⟨(RX9, TX9, 19), rfl, rfl⟩, rfl⟩⟩
set_option maxRecDepth 100000 in
theorem x_m_X9_sumOf : x_mOK mX9_sumOf 1 := ⟨x_tbm 1486 rfl rfl, x_tbm 62 (by decide +kernel) rfl, ⟨by decide +kernel, by decide +kernel, by decide +kernel, by decide +kernel⟩, rfl, Nat.le_of_ble_eq_true rfl⟩
theorem x_c266 : x_cOK (9143, 0, mX9_sumOf, 2) := ⟨x_m_X9_sumOf, fun _ => by decide, ⟨x_tbm 1483 (by decide +kernel) rfl, x_tbm 1485 (by decide +kernel) rfl, x_tbm 19 (by decide +kernel) rfl, ⟨(RX9, TX9, 19), rfl, rfl⟩, rfl⟩⟩
set_option maxRecDepth 100000 in
theorem x_m_X9_inPlot : x_mOK mX9_inPlot 2 := ⟨x_tbm 1490 rfl rfl, x_tbm 62 (by decide +kernel) rfl, ⟨by decide +kernel, by decide +kernel, by decide +kernel, by decide +kernel⟩, rfl, Nat.le_of_ble_eq_true rfl⟩
theorem x_c267 : x_cOK (9140, 0, mX9_inPlot, 3) := ⟨x_m_X9_inPlot, fun _ => by decide, ⟨x_tbm 1487 (by decide +kernel) rfl, x_tbm 1489 (by decide +kernel) rfl, x_tbm 20 (by decide +kernel) rfl, ⟨(RX9, TX9, 19), rfl, rfl⟩, rfl⟩⟩
set_option maxRecDepth 100000 in
theorem x_m_X9_part : x_mOK mX9_part 3 := ⟨x_tbm 1493 rfl rfl, x_tbm 62 (by decide +kernel) rfl, ⟨by decide +kernel, by decide +kernel, by decide +kernel, by decide +kernel⟩, rfl, Nat.le_of_ble_eq_true rfl⟩
theorem x_c268 : x_cOK (9154, 1, mX9_part, 3) := ⟨x_m_X9_part, fun _ => by decide, ⟨x_tbm 1491 (by decide +kernel) rfl, x_tbm 1492 (by decide +kernel) rfl, rfl⟩⟩
set_option maxRecDepth 100000 in
theorem x_m_X9_squaredError : x_mOK mX9_squaredError 2 := ⟨x_tbm 1500 rfl rfl, x_tbm 62 (by decide +kernel) rfl, ⟨by decide +kernel, by decide +kernel, by decide +kernel, by decide +kernel⟩, rfl, Nat.le_of_ble_eq_true rfl⟩
theorem x_c269 : x_cOK (10195, 0, mX9_squaredError, 3) := ⟨x_m_X9_squaredError, fun _ => by decide, ⟨x_tbm 1497 (by decide +kernel) rfl, x_tbm 1498 (by decide +kernel) rfl, x_tbm 1499 (by decide +kernel) rfl, ⟨(RX9, TX9, 19), rfl, rfl⟩, rfl⟩⟩
set_option maxRecDepth 100000 in
theorem x_m_X9_spreadOf : x_mOK mX9_spreadOf 1 := ⟨x_tbm 1504 rfl rfl, x_tbm 62 (by decide +kernel) rfl, ⟨by decide +kernel, by decide +kernel, by decide +kernel, by decide +kernel⟩, rfl, Nat.le_of_ble_eq_true rfl⟩
theorem x_c270 : x_cOK (9158, 0, mX9_spreadOf, 2) := ⟨x_m_X9_spreadOf, fun _ => by decide, ⟨x_tbm 1501 (by decide +kernel) rfl, x_tbm 1503 (by decide +kernel) rfl, x_tbm 21 (by decide +kernel) rfl, ⟨(RX9, TX9, 19), rfl, rfl⟩, rfl⟩⟩
set_option maxRecDepth 100000 in
theorem x_m_X9_isAccurate : x_mOK mX9_isAccurate 2 := ⟨x_tbm 1508 rfl rfl, x_tbm 62 (by decide +kernel) rfl, ⟨by decide +kernel, by decide +kernel, by decide +kernel, by decide +kernel⟩, rfl, Nat.le_of_ble_eq_true rfl⟩
theorem x_c271 : x_cOK (10199, 0, mX9_isAccurate, 3) := ⟨x_m_X9_isAccurate, fun _ => by decide, ⟨x_tbm 1505 (by decide +kernel) rfl, x_tbm 1506 (by decide +kernel) rfl, x_tbm 1507 (by decide +kernel) rfl, ⟨(RX9, TX9, 19), rfl, rfl⟩, rfl⟩⟩
set_option maxRecDepth 100000 in
theorem x_m_X9_refusal : x_mOK mX9_refusal 2 := ⟨x_tbm 1512 rfl rfl, x_tbm 62 (by decide +kernel) rfl, ⟨by decide +kernel, by decide +kernel, by decide +kernel, by decide +kernel⟩, rfl, Nat.le_of_ble_eq_true rfl⟩
theorem x_c272 : x_cOK (9163, 0, mX9_refusal, 3) := ⟨x_m_X9_refusal, fun _ => by decide, ⟨x_tbm 1509 (by decide +kernel) rfl, x_tbm 1511 (by decide +kernel) rfl, x_tbm 22 (by decide +kernel) rfl, ⟨(RX9, TX9, 19), rfl, rfl⟩, rfl⟩⟩
set_option maxRecDepth 100000 in
theorem x_m_X9_neededPlots : x_mOK mX9_neededPlots 2 := ⟨x_tbm 1518 rfl rfl, x_tbm 62 (by decide +kernel) rfl, ⟨by decide +kernel, by decide +kernel, by decide +kernel, by decide +kernel⟩, rfl, Nat.le_of_ble_eq_true rfl⟩
theorem x_c273 : x_cOK (10202, 0, mX9_neededPlots, 3) := ⟨x_m_X9_neededPlots, fun _ => by decide, ⟨x_tbm 1515 (by decide +kernel) rfl, x_tbm 1516 (by decide +kernel) rfl, x_tbm 1517 (by decide +kernel) rfl, ⟨(RX9, TX9, 19), rfl, rfl⟩, rfl⟩⟩
set_option maxRecDepth 100000 in
theorem x_m_X9_mostInfluentialPlot : x_mOK mX9_mostInfluentialPlot 1 := ⟨x_tbm 1522 rfl rfl, x_tbm 62 (by decide +kernel) rfl, ⟨by decide +kernel, by decide +kernel, by decide +kernel, by decide +kernel⟩, rfl, Nat.le_of_ble_eq_true rfl⟩
theorem x_c274 : x_cOK (10205, 0, mX9_mostInfluentialPlot, 2) := ⟨x_m_X9_mostInfluentialPlot, fun _ => by decide, ⟨x_tbm 1519 (by decide +kernel) rfl, x_tbm 1520 (by decide +kernel) rfl, x_tbm 1521 (by decide +kernel) rfl, ⟨(RX9, TX9, 19), rfl, rfl⟩, rfl⟩⟩
set_option maxRecDepth 100000 in
theorem x_m_X9_advertise : x_mOK mX9_advertise 0 := ⟨x_tbm 1527 rfl rfl, x_tbm 62 (by decide +kernel) rfl, ⟨by decide +kernel, by decide +kernel, by decide +kernel, by decide +kernel⟩, rfl, Nat.le_of_ble_eq_true rfl⟩
theorem x_c275 : x_cOK (10209, 0, mX9_advertise, 1) := ⟨x_m_X9_advertise, fun _ => by decide, ⟨x_tbm 1524 (by decide +kernel) rfl, x_tbm 1525 (by decide +kernel) rfl, x_tbm 1526 (by decide +kernel) rfl, ⟨(RX9, TX9, 19), rfl, rfl⟩, rfl⟩⟩
set_option maxRecDepth 100000 in
theorem x_m_X9_remains : x_mOK mX9_remains 1 := ⟨x_tbm 1531 rfl rfl, x_tbm 62 (by decide +kernel) rfl, ⟨by decide +kernel, by decide +kernel, by decide +kernel, by decide +kernel⟩, rfl, Nat.le_of_ble_eq_true rfl⟩
theorem x_c276 : x_cOK (9174, 0, mX9_remains, 2) := ⟨x_m_X9_remains, fun _ => by decide, ⟨x_tbm 1528 (by decide +kernel) rfl, x_tbm 1530 (by decide +kernel) rfl, x_tbm 23 (by decide +kernel) rfl, ⟨(RX9, TX9, 19), rfl, rfl⟩, rfl⟩⟩
set_option maxRecDepth 100000 in
theorem x_m_X9_netsOf : x_mOK mX9_netsOf 3 := ⟨x_tbm 1535 rfl rfl, x_tbm 62 (by decide +kernel) rfl, ⟨by decide +kernel, by decide +kernel, by decide +kernel, by decide +kernel⟩, rfl, Nat.le_of_ble_eq_true rfl⟩
theorem x_c277 : x_cOK (9266, 0, mX9_netsOf, 4) := ⟨x_m_X9_netsOf, fun _ => by decide, ⟨x_tbm 1532 (by decide +kernel) rfl, x_tbm 1534 (by decide +kernel) rfl, x_tbm 24 (by decide +kernel) rfl, ⟨(RX9, TX9, 19), rfl, rfl⟩, rfl⟩⟩
set_option maxRecDepth 100000 in
theorem x_m_X9_ofLoad : x_mOK mX9_ofLoad 2 := ⟨x_tbm 1539 rfl rfl, x_tbm 62 (by decide +kernel) rfl, ⟨by decide +kernel, by decide +kernel, by decide +kernel, by decide +kernel⟩, rfl, Nat.le_of_ble_eq_true rfl⟩
theorem x_c278 : x_cOK (9258, 0, mX9_ofLoad, 3) := ⟨x_m_X9_ofLoad, fun _ => by decide, ⟨x_tbm 1536 (by decide +kernel) rfl, x_tbm 1538 (by decide +kernel) rfl, x_tbm 25 (by decide +kernel) rfl, ⟨(RX9, TX9, 19), rfl, rfl⟩, rfl⟩⟩
set_option maxRecDepth 100000 in
theorem x_m_X9_volume : x_mOK mX9_volume 1 := ⟨x_tbm 1543 rfl rfl, x_tbm 62 (by decide +kernel) rfl, ⟨by decide +kernel, by decide +kernel, by decide +kernel, by decide +kernel⟩, rfl, Nat.le_of_ble_eq_true rfl⟩
theorem x_c279 : x_cOK (10212, 0, mX9_volume, 2) := ⟨x_m_X9_volume, fun _ => by decide, ⟨x_tbm 1540 (by decide +kernel) rfl, x_tbm 1541 (by decide +kernel) rfl, x_tbm 1542 (by decide +kernel) rfl, ⟨(RX9, TX9, 19), rfl, rfl⟩, rfl⟩⟩
set_option maxRecDepth 100000 in
theorem x_m_X9_volumeAt : x_mOK mX9_volumeAt 1 := ⟨x_tbm 1547 rfl rfl, x_tbm 62 (by decide +kernel) rfl, ⟨by decide +kernel, by decide +kernel, by decide +kernel, by decide +kernel⟩, rfl, Nat.le_of_ble_eq_true rfl⟩
theorem x_c280 : x_cOK (9177, 0, mX9_volumeAt, 2) := ⟨x_m_X9_volumeAt, fun _ => by decide, ⟨x_tbm 1544 (by decide +kernel) rfl, x_tbm 1546 (by decide +kernel) rfl, x_tbm 26 (by decide +kernel) rfl, ⟨(RX9, TX9, 19), rfl, rfl⟩, rfl⟩⟩
set_option maxRecDepth 100000 in
theorem x_m_X9_isSecond : x_mOK mX9_isSecond 0 := ⟨x_tbm 1551 rfl rfl, x_tbm 62 (by decide +kernel) rfl, ⟨by decide +kernel, by decide +kernel, by decide +kernel, by decide +kernel⟩, rfl, Nat.le_of_ble_eq_true rfl⟩
theorem x_c281 : x_cOK (9170, 0, mX9_isSecond, 1) := ⟨x_m_X9_isSecond, fun _ => by decide, ⟨x_tbm 1548 (by decide +kernel) rfl, x_tbm 1550 (by decide +kernel) rfl, x_tbm 27 (by decide +kernel) rfl, ⟨(RX9, TX9, 19), rfl, rfl⟩, rfl⟩⟩
set_option maxRecDepth 100000 in
theorem x_m_X9_offer : x_mOK mX9_offer 3 := ⟨x_tbm 1555 rfl rfl, x_tbm 62 (by decide +kernel) rfl, ⟨by decide +kernel, by decide +kernel, by decide +kernel, by decide +kernel⟩, rfl, Nat.le_of_ble_eq_true rfl⟩
theorem x_c282 : x_cOK (10216, 0, mX9_offer, 4) := ⟨x_m_X9_offer, fun _ => by decide, ⟨x_tbm 1552 (by decide +kernel) rfl, x_tbm 1553 (by decide +kernel) rfl, x_tbm 1554 (by decide +kernel) rfl, ⟨(RX9, TX9, 19), rfl, rfl⟩, rfl⟩⟩
set_option maxRecDepth 100000 in
theorem x_m_X9_isBidder : x_mOK mX9_isBidder 1 := ⟨x_tbm 1558 rfl rfl, x_tbm 62 (by decide +kernel) rfl, ⟨by decide +kernel, by decide +kernel, by decide +kernel, by decide +kernel⟩, rfl, Nat.le_of_ble_eq_true rfl⟩
theorem x_c283 : x_cOK (9185, 1, mX9_isBidder, 1) := ⟨x_m_X9_isBidder, fun _ => by decide, ⟨x_tbm 1556 (by decide +kernel) rfl, x_tbm 1557 (by decide +kernel) rfl, rfl⟩⟩
set_option maxRecDepth 100000 in
theorem x_m_X9_isBidding : x_mOK mX9_isBidding 0 := ⟨x_tbm 1564 rfl rfl, x_tbm 62 (by decide +kernel) rfl, ⟨by decide +kernel, by decide +kernel, by decide +kernel, by decide +kernel⟩, rfl, Nat.le_of_ble_eq_true rfl⟩
theorem x_c284 : x_cOK (9190, 0, mX9_isBidding, 1) := ⟨x_m_X9_isBidding, fun _ => by decide, ⟨x_tbm 1561 (by decide +kernel) rfl, x_tbm 1563 (by decide +kernel) rfl, x_tbm 28 (by decide +kernel) rfl, ⟨(RX9, TX9, 19), rfl, rfl⟩, rfl⟩⟩
set_option maxRecDepth 100000 in
theorem x_m_X9_isSealed : x_mOK mX9_isSealed 1 := ⟨x_tbm 1568 rfl rfl, x_tbm 62 (by decide +kernel) rfl, ⟨by decide +kernel, by decide +kernel, by decide +kernel, by decide +kernel⟩, rfl, Nat.le_of_ble_eq_true rfl⟩
theorem x_c285 : x_cOK (9193, 0, mX9_isSealed, 2) := ⟨x_m_X9_isSealed, fun _ => by decide, ⟨x_tbm 1565 (by decide +kernel) rfl, x_tbm 1567 (by decide +kernel) rfl, x_tbm 29 (by decide +kernel) rfl, ⟨(RX9, TX9, 19), rfl, rfl⟩, rfl⟩⟩
set_option maxRecDepth 100000 in
theorem x_m_X9_ofBid : x_mOK mX9_ofBid 2 := ⟨x_tbm 1572 rfl rfl, x_tbm 62 (by decide +kernel) rfl, ⟨by decide +kernel, by decide +kernel, by decide +kernel, by decide +kernel⟩, rfl, Nat.le_of_ble_eq_true rfl⟩
theorem x_c286 : x_cOK (9182, 0, mX9_ofBid, 3) := ⟨x_m_X9_ofBid, fun _ => by decide, ⟨x_tbm 1569 (by decide +kernel) rfl, x_tbm 1571 (by decide +kernel) rfl, x_tbm 30 (by decide +kernel) rfl, ⟨(RX9, TX9, 19), rfl, rfl⟩, rfl⟩⟩
set_option maxRecDepth 100000 in
theorem x_m_X9_setsBid : x_mOK mX9_setsBid 3 := ⟨x_tbm 1576 rfl rfl, x_tbm 62 (by decide +kernel) rfl, ⟨by decide +kernel, by decide +kernel, by decide +kernel, by decide +kernel⟩, rfl, Nat.le_of_ble_eq_true rfl⟩
theorem x_c287 : x_cOK (9196, 0, mX9_setsBid, 4) := ⟨x_m_X9_setsBid, fun _ => by decide, ⟨x_tbm 1573 (by decide +kernel) rfl, x_tbm 1575 (by decide +kernel) rfl, x_tbm 31 (by decide +kernel) rfl, ⟨(RX9, TX9, 19), rfl, rfl⟩, rfl⟩⟩
set_option maxRecDepth 100000 in
theorem x_m_X9_setDeposit : x_mOK mX9_setDeposit 2 := ⟨x_tbm 1580 rfl rfl, x_tbm 62 (by decide +kernel) rfl, ⟨by decide +kernel, by decide +kernel, by decide +kernel, by decide +kernel⟩, rfl, Nat.le_of_ble_eq_true rfl⟩
theorem x_c288 : x_cOK (10219, 0, mX9_setDeposit, 3) := ⟨x_m_X9_setDeposit, fun _ => by decide, ⟨x_tbm 1577 (by decide +kernel) rfl, x_tbm 1578 (by decide +kernel) rfl, x_tbm 1579 (by decide +kernel) rfl, ⟨(RX9, TX9, 19), rfl, rfl⟩, rfl⟩⟩
set_option maxRecDepth 100000 in
theorem x_m_X9_seal : x_mOK mX9_seal 1 := ⟨x_tbm 1585 rfl rfl, x_tbm 62 (by decide +kernel) rfl, ⟨by decide +kernel, by decide +kernel, by decide +kernel, by decide +kernel⟩, rfl, Nat.le_of_ble_eq_true rfl⟩
theorem x_c289 : x_cOK (10222, 0, mX9_seal, 2) := ⟨x_m_X9_seal, fun _ => by decide, ⟨x_tbm 1582 (by decide +kernel) rfl, x_tbm 1583 (by decide +kernel) rfl, x_tbm 1584 (by decide +kernel) rfl, ⟨(RX9, TX9, 19), rfl, rfl⟩, rfl⟩⟩
set_option maxRecDepth 100000 in
theorem x_m_X9_withdraw : x_mOK mX9_withdraw 1 := ⟨x_tbm 1589 rfl rfl, x_tbm 62 (by decide +kernel) rfl, ⟨by decide +kernel, by decide +kernel, by decide +kernel, by decide +kernel⟩, rfl, Nat.le_of_ble_eq_true rfl⟩
theorem x_c290 : x_cOK (10226, 0, mX9_withdraw, 2) := ⟨x_m_X9_withdraw, fun _ => by decide, ⟨x_tbm 1586 (by decide +kernel) rfl, x_tbm 1587 (by decide +kernel) rfl, x_tbm 1588 (by decide +kernel) rfl, ⟨(RX9, TX9, 19), rfl, rfl⟩, rfl⟩⟩
set_option maxRecDepth 100000 in
theorem x_m_X9_open : x_mOK mX9_open 0 := ⟨x_tbm 1593 rfl rfl, x_tbm 62 (by decide +kernel) rfl, ⟨by decide +kernel, by decide +kernel, by decide +kernel, by decide +kernel⟩, rfl, Nat.le_of_ble_eq_true rfl⟩
theorem x_c291 : x_cOK (10229, 0, mX9_open, 1) := ⟨x_m_X9_open, fun _ => by decide, ⟨x_tbm 1590 (by decide +kernel) rfl, x_tbm 1591 (by decide +kernel) rfl, x_tbm 1592 (by decide +kernel) rfl, ⟨(RX9, TX9, 19), rfl, rfl⟩, rfl⟩⟩
set_option maxRecDepth 100000 in
theorem x_m_X9_problemOf : x_mOK mX9_problemOf 1 := ⟨x_tbm 1597 rfl rfl, x_tbm 62 (by decide +kernel) rfl, ⟨by decide +kernel, by decide +kernel, by decide +kernel, by decide +kernel⟩, rfl, Nat.le_of_ble_eq_true rfl⟩
theorem x_c292 : x_cOK (9202, 0, mX9_problemOf, 2) := ⟨x_m_X9_problemOf, fun _ => by decide, ⟨x_tbm 1594 (by decide +kernel) rfl, x_tbm 1596 (by decide +kernel) rfl, x_tbm 32 (by decide +kernel) rfl, ⟨(RX9, TX9, 19), rfl, rfl⟩, rfl⟩⟩
set_option maxRecDepth 100000 in
theorem x_m_X9_valueOf : x_mOK mX9_valueOf 3 := ⟨x_tbm 1602 rfl rfl, x_tbm 62 (by decide +kernel) rfl, ⟨by decide +kernel, by decide +kernel, by decide +kernel, by decide +kernel⟩, rfl, Nat.le_of_ble_eq_true rfl⟩
theorem x_c293 : x_cOK (9207, 0, mX9_valueOf, 4) := ⟨x_m_X9_valueOf, fun _ => by decide, ⟨x_tbm 1599 (by decide +kernel) rfl, x_tbm 1601 (by decide +kernel) rfl, x_tbm 33 (by decide +kernel) rfl, ⟨(RX9, TX9, 19), rfl, rfl⟩, rfl⟩⟩
set_option maxRecDepth 100000 in
theorem x_m_X9_problem : x_mOK mX9_problem 1 := ⟨x_tbm 1606 rfl rfl, x_tbm 62 (by decide +kernel) rfl, ⟨by decide +kernel, by decide +kernel, by decide +kernel, by decide +kernel⟩, rfl, Nat.le_of_ble_eq_true rfl⟩
theorem x_c294 : x_cOK (10232, 0, mX9_problem, 2) := ⟨x_m_X9_problem, fun _ => by decide, ⟨x_tbm 1603 (by decide +kernel) rfl, x_tbm 1604 (by decide +kernel) rfl, x_tbm 1605 (by decide +kernel) rfl, ⟨(RX9, TX9, 19), rfl, rfl⟩, rfl⟩⟩
set_option maxRecDepth 100000 in
theorem x_m_X9_bidRefusal : x_mOK mX9_bidRefusal 1 := ⟨x_tbm 1610 rfl rfl, x_tbm 62 (by decide +kernel) rfl, ⟨by decide +kernel, by decide +kernel, by decide +kernel, by decide +kernel⟩, rfl, Nat.le_of_ble_eq_true rfl⟩
theorem x_c295 : x_cOK (9218, 0, mX9_bidRefusal, 2) := ⟨x_m_X9_bidRefusal, fun _ => by decide, ⟨x_tbm 1607 (by decide +kernel) rfl, x_tbm 1609 (by decide +kernel) rfl, x_tbm 34 (by decide +kernel) rfl, ⟨(RX9, TX9, 19), rfl, rfl⟩, rfl⟩⟩
set_option maxRecDepth 100000 in
theorem x_m_X9_isOpened : x_mOK mX9_isOpened 0 := ⟨x_tbm 1614 rfl rfl, x_tbm 62 (by decide +kernel) rfl, ⟨by decide +kernel, by decide +kernel, by decide +kernel, by decide +kernel⟩, rfl, Nat.le_of_ble_eq_true rfl⟩
theorem x_c296 : x_cOK (9215, 0, mX9_isOpened, 1) := ⟨x_m_X9_isOpened, fun _ => by decide, ⟨x_tbm 1611 (by decide +kernel) rfl, x_tbm 1613 (by decide +kernel) rfl, x_tbm 35 (by decide +kernel) rfl, ⟨(RX9, TX9, 19), rfl, rfl⟩, rfl⟩⟩
set_option maxRecDepth 100000 in
theorem x_m_X9_value : x_mOK mX9_value 1 := ⟨x_tbm 1618 rfl rfl, x_tbm 62 (by decide +kernel) rfl, ⟨by decide +kernel, by decide +kernel, by decide +kernel, by decide +kernel⟩, rfl, Nat.le_of_ble_eq_true rfl⟩
theorem x_c297 : x_cOK (10235, 0, mX9_value, 2) := ⟨x_m_X9_value, fun _ => by decide, ⟨x_tbm 1615 (by decide +kernel) rfl, x_tbm 1616 (by decide +kernel) rfl, x_tbm 1617 (by decide +kernel) rfl, ⟨(RX9, TX9, 19), rfl, rfl⟩, rfl⟩⟩
set_option maxRecDepth 100000 in
theorem x_m_X9_rank : x_mOK mX9_rank 1 := ⟨x_tbm 1622 rfl rfl, x_tbm 62 (by decide +kernel) rfl, ⟨by decide +kernel, by decide +kernel, by decide +kernel, by decide +kernel⟩, rfl, Nat.le_of_ble_eq_true rfl⟩
theorem x_c298 : x_cOK (10238, 0, mX9_rank, 2) := ⟨x_m_X9_rank, fun _ => by decide, ⟨x_tbm 1619 (by decide +kernel) rfl, x_tbm 1620 (by decide +kernel) rfl, x_tbm 1621 (by decide +kernel) rfl, ⟨(RX9, TX9, 19), rfl, rfl⟩, rfl⟩⟩
set_option maxRecDepth 100000 in
theorem x_m_X9_isBefore : x_mOK mX9_isBefore 4 := ⟨x_tbm 1626 rfl rfl, x_tbm 62 (by decide +kernel) rfl, ⟨by decide +kernel, by decide +kernel, by decide +kernel, by decide +kernel⟩, rfl, Nat.le_of_ble_eq_true rfl⟩
theorem x_c299 : x_cOK (9211, 0, mX9_isBefore, 5) := ⟨x_m_X9_isBefore, fun _ => by decide, ⟨x_tbm 1623 (by decide +kernel) rfl, x_tbm 1625 (by decide +kernel) rfl, x_tbm 36 (by decide +kernel) rfl, ⟨(RX9, TX9, 19), rfl, rfl⟩, rfl⟩⟩
set_option maxRecDepth 100000 in
theorem x_m_X9_turningPoint : x_mOK mX9_turningPoint 1 := ⟨x_tbm 1630 rfl rfl, x_tbm 62 (by decide +kernel) rfl, ⟨by decide +kernel, by decide +kernel, by decide +kernel, by decide +kernel⟩, rfl, Nat.le_of_ble_eq_true rfl⟩
theorem x_c300 : x_cOK (10241, 0, mX9_turningPoint, 2) := ⟨x_m_X9_turningPoint, fun _ => by decide, ⟨x_tbm 1627 (by decide +kernel) rfl, x_tbm 1628 (by decide +kernel) rfl, x_tbm 1629 (by decide +kernel) rfl, ⟨(RX9, TX9, 19), rfl, rfl⟩, rfl⟩⟩
set_option maxRecDepth 100000 in
theorem x_m_X9_winnerBy : x_mOK mX9_winnerBy 2 := ⟨x_tbm 1634 rfl rfl, x_tbm 62 (by decide +kernel) rfl, ⟨by decide +kernel, by decide +kernel, by decide +kernel, by decide +kernel⟩, rfl, Nat.le_of_ble_eq_true rfl⟩
theorem x_c301 : x_cOK (9221, 0, mX9_winnerBy, 3) := ⟨x_m_X9_winnerBy, fun _ => by decide, ⟨x_tbm 1631 (by decide +kernel) rfl, x_tbm 1633 (by decide +kernel) rfl, x_tbm 37 (by decide +kernel) rfl, ⟨(RX9, TX9, 19), rfl, rfl⟩, rfl⟩⟩
set_option maxRecDepth 100000 in
theorem x_m_X9_leastWinningRate : x_mOK mX9_leastWinningRate 2 := ⟨x_tbm 1638 rfl rfl, x_tbm 62 (by decide +kernel) rfl, ⟨by decide +kernel, by decide +kernel, by decide +kernel, by decide +kernel⟩, rfl, Nat.le_of_ble_eq_true rfl⟩
theorem x_c302 : x_cOK (10244, 0, mX9_leastWinningRate, 3) := ⟨x_m_X9_leastWinningRate, fun _ => by decide, ⟨x_tbm 1635 (by decide +kernel) rfl, x_tbm 1636 (by decide +kernel) rfl, x_tbm 1637 (by decide +kernel) rfl, ⟨(RX9, TX9, 19), rfl, rfl⟩, rfl⟩⟩
set_option maxRecDepth 100000 in
theorem x_m_X9_couldBeValid : x_mOK mX9_couldBeValid 2 := ⟨x_tbm 1642 rfl rfl, x_tbm 62 (by decide +kernel) rfl, ⟨by decide +kernel, by decide +kernel, by decide +kernel, by decide +kernel⟩, rfl, Nat.le_of_ble_eq_true rfl⟩
theorem x_c303 : x_cOK (9231, 0, mX9_couldBeValid, 3) := ⟨x_m_X9_couldBeValid, fun _ => by decide, ⟨x_tbm 1639 (by decide +kernel) rfl, x_tbm 1641 (by decide +kernel) rfl, x_tbm 38 (by decide +kernel) rfl, ⟨(RX9, TX9, 19), rfl, rfl⟩, rfl⟩⟩
set_option maxRecDepth 100000 in
theorem x_m_X9_leastRate : x_mOK mX9_leastRate 2 := ⟨x_tbm 1646 rfl rfl, x_tbm 62 (by decide +kernel) rfl, ⟨by decide +kernel, by decide +kernel, by decide +kernel, by decide +kernel⟩, rfl, Nat.le_of_ble_eq_true rfl⟩
theorem x_c304 : x_cOK (9235, 0, mX9_leastRate, 3) := ⟨x_m_X9_leastRate, fun _ => by decide, ⟨x_tbm 1643 (by decide +kernel) rfl, x_tbm 1645 (by decide +kernel) rfl, x_tbm 39 (by decide +kernel) rfl, ⟨(RX9, TX9, 19), rfl, rfl⟩, rfl⟩⟩
set_option maxRecDepth 100000 in
theorem x_m_X9_firstBut : x_mOK mX9_firstBut 1 := ⟨x_tbm 1650 rfl rfl, x_tbm 62 (by decide +kernel) rfl, ⟨by decide +kernel, by decide +kernel, by decide +kernel, by decide +kernel⟩, rfl, Nat.le_of_ble_eq_true rfl⟩
theorem x_c305 : x_cOK (9224, 0, mX9_firstBut, 2) := ⟨x_m_X9_firstBut, fun _ => by decide, ⟨x_tbm 1647 (by decide +kernel) rfl, x_tbm 1649 (by decide +kernel) rfl, x_tbm 40 (by decide +kernel) rfl, ⟨(RX9, TX9, 19), rfl, rfl⟩, rfl⟩⟩
set_option maxRecDepth 100000 in
theorem x_m_X9_award : x_mOK mX9_award 0 := ⟨x_tbm 1655 rfl rfl, x_tbm 62 (by decide +kernel) rfl, ⟨by decide +kernel, by decide +kernel, by decide +kernel, by decide +kernel⟩, rfl, Nat.le_of_ble_eq_true rfl⟩
theorem x_c306 : x_cOK (10247, 0, mX9_award, 1) := ⟨x_m_X9_award, fun _ => by decide, ⟨x_tbm 1652 (by decide +kernel) rfl, x_tbm 1653 (by decide +kernel) rfl, x_tbm 1654 (by decide +kernel) rfl, ⟨(RX9, TX9, 19), rfl, rfl⟩, rfl⟩⟩
set_option maxRecDepth 100000 in
theorem x_m_X9_setIndex : x_mOK mX9_setIndex 3 := ⟨x_tbm 1659 rfl rfl, x_tbm 62 (by decide +kernel) rfl, ⟨by decide +kernel, by decide +kernel, by decide +kernel, by decide +kernel⟩, rfl, Nat.le_of_ble_eq_true rfl⟩
theorem x_c307 : x_cOK (10251, 0, mX9_setIndex, 4) := ⟨x_m_X9_setIndex, fun _ => by decide, ⟨x_tbm 1656 (by decide +kernel) rfl, x_tbm 1657 (by decide +kernel) rfl, x_tbm 1658 (by decide +kernel) rfl, ⟨(RX9, TX9, 19), rfl, rfl⟩, rfl⟩⟩
set_option maxRecDepth 100000 in
theorem x_m_X9_rate : x_mOK mX9_rate 2 := ⟨x_tbm 1665 rfl rfl, x_tbm 62 (by decide +kernel) rfl, ⟨by decide +kernel, by decide +kernel, by decide +kernel, by decide +kernel⟩, rfl, Nat.le_of_ble_eq_true rfl⟩
theorem x_c308 : x_cOK (10254, 0, mX9_rate, 3) := ⟨x_m_X9_rate, fun _ => by decide, ⟨x_tbm 1662 (by decide +kernel) rfl, x_tbm 1663 (by decide +kernel) rfl, x_tbm 1664 (by decide +kernel) rfl, ⟨(RX9, TX9, 19), rfl, rfl⟩, rfl⟩⟩
set_option maxRecDepth 100000 in
theorem x_m_X9_rateOf : x_mOK mX9_rateOf 2 := ⟨x_tbm 1669 rfl rfl, x_tbm 62 (by decide +kernel) rfl, ⟨by decide +kernel, by decide +kernel, by decide +kernel, by decide +kernel⟩, rfl, Nat.le_of_ble_eq_true rfl⟩
theorem x_c309 : x_cOK (9246, 0, mX9_rateOf, 3) := ⟨x_m_X9_rateOf, fun _ => by decide, ⟨x_tbm 1666 (by decide +kernel) rfl, x_tbm 1668 (by decide +kernel) rfl, x_tbm 41 (by decide +kernel) rfl, ⟨(RX9, TX9, 19), rfl, rfl⟩, rfl⟩⟩
set_option maxRecDepth 100000 in
theorem x_m_X9_rateBy : x_mOK mX9_rateBy 2 := ⟨x_tbm 1673 rfl rfl, x_tbm 62 (by decide +kernel) rfl, ⟨by decide +kernel, by decide +kernel, by decide +kernel, by decide +kernel⟩, rfl, Nat.le_of_ble_eq_true rfl⟩
theorem x_c310 : x_cOK (9243, 0, mX9_rateBy, 3) := ⟨x_m_X9_rateBy, fun _ => by decide, ⟨x_tbm 1670 (by decide +kernel) rfl, x_tbm 1672 (by decide +kernel) rfl, x_tbm 42 (by decide +kernel) rfl, ⟨(RX9, TX9, 19), rfl, rfl⟩, rfl⟩⟩
set_option maxRecDepth 100000 in
theorem x_m_X9_indexFor : x_mOK mX9_indexFor 2 := ⟨x_tbm 1677 rfl rfl, x_tbm 62 (by decide +kernel) rfl, ⟨by decide +kernel, by decide +kernel, by decide +kernel, by decide +kernel⟩, rfl, Nat.le_of_ble_eq_true rfl⟩
theorem x_c311 : x_cOK (10257, 0, mX9_indexFor, 3) := ⟨x_m_X9_indexFor, fun _ => by decide, ⟨x_tbm 1674 (by decide +kernel) rfl, x_tbm 1675 (by decide +kernel) rfl, x_tbm 1676 (by decide +kernel) rfl, ⟨(RX9, TX9, 19), rfl, rfl⟩, rfl⟩⟩
set_option maxRecDepth 100000 in
theorem x_m_X9_scale : x_mOK mX9_scale 3 := ⟨x_tbm 1681 rfl rfl, x_tbm 62 (by decide +kernel) rfl, ⟨by decide +kernel, by decide +kernel, by decide +kernel, by decide +kernel⟩, rfl, Nat.le_of_ble_eq_true rfl⟩
theorem x_c312 : x_cOK (10260, 0, mX9_scale, 4) := ⟨x_m_X9_scale, fun _ => by decide, ⟨x_tbm 1678 (by decide +kernel) rfl, x_tbm 1679 (by decide +kernel) rfl, x_tbm 1680 (by decide +kernel) rfl, ⟨(RX9, TX9, 19), rfl, rfl⟩, rfl⟩⟩
set_option maxRecDepth 100000 in
theorem x_m_X9_isScaled : x_mOK mX9_isScaled 2 := ⟨x_tbm 1684 rfl rfl, x_tbm 62 (by decide +kernel) rfl, ⟨by decide +kernel, by decide +kernel, by decide +kernel, by decide +kernel⟩, rfl, Nat.le_of_ble_eq_true rfl⟩
theorem x_c313 : x_cOK (9249, 1, mX9_isScaled, 2) := ⟨x_m_X9_isScaled, fun _ => by decide, ⟨x_tbm 1682 (by decide +kernel) rfl, x_tbm 1683 (by decide +kernel) rfl, rfl⟩⟩
set_option maxRecDepth 100000 in
theorem x_m_X9_netOf : x_mOK mX9_netOf 2 := ⟨x_tbm 1687 rfl rfl, x_tbm 62 (by decide +kernel) rfl, ⟨by decide +kernel, by decide +kernel, by decide +kernel, by decide +kernel⟩, rfl, Nat.le_of_ble_eq_true rfl⟩
theorem x_c314 : x_cOK (9252, 1, mX9_netOf, 2) := ⟨x_m_X9_netOf, fun _ => by decide, ⟨x_tbm 1685 (by decide +kernel) rfl, x_tbm 1686 (by decide +kernel) rfl, rfl⟩⟩
set_option maxRecDepth 100000 in
theorem x_m_X9_check : x_mOK mX9_check 3 := ⟨x_tbm 1691 rfl rfl, x_tbm 62 (by decide +kernel) rfl, ⟨by decide +kernel, by decide +kernel, by decide +kernel, by decide +kernel⟩, rfl, Nat.le_of_ble_eq_true rfl⟩
theorem x_c315 : x_cOK (10263, 0, mX9_check, 4) := ⟨x_m_X9_check, fun _ => by decide, ⟨x_tbm 1688 (by decide +kernel) rfl, x_tbm 1689 (by decide +kernel) rfl, x_tbm 1690 (by decide +kernel) rfl, ⟨(RX9, TX9, 19), rfl, rfl⟩, rfl⟩⟩
set_option maxRecDepth 100000 in
theorem x_m_X9_isLoad : x_mOK mX9_isLoad 1 := ⟨x_tbm 1695 rfl rfl, x_tbm 62 (by decide +kernel) rfl, ⟨by decide +kernel, by decide +kernel, by decide +kernel, by decide +kernel⟩, rfl, Nat.le_of_ble_eq_true rfl⟩
theorem x_c316 : x_cOK (9255, 0, mX9_isLoad, 2) := ⟨x_m_X9_isLoad, fun _ => by decide, ⟨x_tbm 1692 (by decide +kernel) rfl, x_tbm 1694 (by decide +kernel) rfl, x_tbm 43 (by decide +kernel) rfl, ⟨(RX9, TX9, 19), rfl, rfl⟩, rfl⟩⟩
set_option maxRecDepth 100000 in
theorem x_m_X9_net : x_mOK mX9_net 1 := ⟨x_tbm 1699 rfl rfl, x_tbm 62 (by decide +kernel) rfl, ⟨by decide +kernel, by decide +kernel, by decide +kernel, by decide +kernel⟩, rfl, Nat.le_of_ble_eq_true rfl⟩
theorem x_c317 : x_cOK (10279, 0, mX9_net, 2) := ⟨x_m_X9_net, fun _ => by decide, ⟨x_tbm 1696 (by decide +kernel) rfl, x_tbm 1697 (by decide +kernel) rfl, x_tbm 1698 (by decide +kernel) rfl, ⟨(RX9, TX9, 19), rfl, rfl⟩, rfl⟩⟩
set_option maxRecDepth 100000 in
theorem x_m_X9_voidLoad : x_mOK mX9_voidLoad 1 := ⟨x_tbm 1703 rfl rfl, x_tbm 62 (by decide +kernel) rfl, ⟨by decide +kernel, by decide +kernel, by decide +kernel, by decide +kernel⟩, rfl, Nat.le_of_ble_eq_true rfl⟩
theorem x_c318 : x_cOK (10266, 0, mX9_voidLoad, 2) := ⟨x_m_X9_voidLoad, fun _ => by decide, ⟨x_tbm 1700 (by decide +kernel) rfl, x_tbm 1701 (by decide +kernel) rfl, x_tbm 1702 (by decide +kernel) rfl, ⟨(RX9, TX9, 19), rfl, rfl⟩, rfl⟩⟩
set_option maxRecDepth 100000 in
theorem x_m_X9_worstCheck : x_mOK mX9_worstCheck 0 := ⟨x_tbm 1707 rfl rfl, x_tbm 62 (by decide +kernel) rfl, ⟨by decide +kernel, by decide +kernel, by decide +kernel, by decide +kernel⟩, rfl, Nat.le_of_ble_eq_true rfl⟩
theorem x_c319 : x_cOK (10269, 0, mX9_worstCheck, 1) := ⟨x_m_X9_worstCheck, fun _ => by decide, ⟨x_tbm 1704 (by decide +kernel) rfl, x_tbm 1705 (by decide +kernel) rfl, x_tbm 1706 (by decide +kernel) rfl, ⟨(RX9, TX9, 19), rfl, rfl⟩, rfl⟩⟩
set_option maxRecDepth 100000 in
theorem x_m_X9_apart : x_mOK mX9_apart 1 := ⟨x_tbm 1711 rfl rfl, x_tbm 62 (by decide +kernel) rfl, ⟨by decide +kernel, by decide +kernel, by decide +kernel, by decide +kernel⟩, rfl, Nat.le_of_ble_eq_true rfl⟩
theorem x_c320 : x_cOK (9261, 0, mX9_apart, 2) := ⟨x_m_X9_apart, fun _ => by decide, ⟨x_tbm 1708 (by decide +kernel) rfl, x_tbm 1710 (by decide +kernel) rfl, x_tbm 44 (by decide +kernel) rfl, ⟨(RX9, TX9, 19), rfl, rfl⟩, rfl⟩⟩
set_option maxRecDepth 100000 in
theorem x_m_X9_scaled : x_mOK mX9_scaled 3 := ⟨x_tbm 1715 rfl rfl, x_tbm 62 (by decide +kernel) rfl, ⟨by decide +kernel, by decide +kernel, by decide +kernel, by decide +kernel⟩, rfl, Nat.le_of_ble_eq_true rfl⟩
theorem x_c321 : x_cOK (10272, 0, mX9_scaled, 4) := ⟨x_m_X9_scaled, fun _ => by decide, ⟨x_tbm 1712 (by decide +kernel) rfl, x_tbm 1713 (by decide +kernel) rfl, x_tbm 1714 (by decide +kernel) rfl, ⟨(RX9, TX9, 19), rfl, rfl⟩, rfl⟩⟩
set_option maxRecDepth 100000 in
theorem x_m_X9_cutShare : x_mOK mX9_cutShare 1 := ⟨x_tbm 1720 rfl rfl, x_tbm 62 (by decide +kernel) rfl, ⟨by decide +kernel, by decide +kernel, by decide +kernel, by decide +kernel⟩, rfl, Nat.le_of_ble_eq_true rfl⟩
theorem x_c322 : x_cOK (10276, 0, mX9_cutShare, 2) := ⟨x_m_X9_cutShare, fun _ => by decide, ⟨x_tbm 1717 (by decide +kernel) rfl, x_tbm 1718 (by decide +kernel) rfl, x_tbm 1719 (by decide +kernel) rfl, ⟨(RX9, TX9, 19), rfl, rfl⟩, rfl⟩⟩
set_option maxRecDepth 100000 in
theorem x_m_X9_factor : x_mOK mX9_factor 1 := ⟨x_tbm 1724 rfl rfl, x_tbm 62 (by decide +kernel) rfl, ⟨by decide +kernel, by decide +kernel, by decide +kernel, by decide +kernel⟩, rfl, Nat.le_of_ble_eq_true rfl⟩
theorem x_c323 : x_cOK (10284, 0, mX9_factor, 2) := ⟨x_m_X9_factor, fun _ => by decide, ⟨x_tbm 1721 (by decide +kernel) rfl, x_tbm 1722 (by decide +kernel) rfl, x_tbm 1723 (by decide +kernel) rfl, ⟨(RX9, TX9, 19), rfl, rfl⟩, rfl⟩⟩
set_option maxRecDepth 100000 in
theorem x_m_X9_laysFactor : x_mOK mX9_laysFactor 0 := ⟨x_tbm 1728 rfl rfl, x_tbm 62 (by decide +kernel) rfl, ⟨by decide +kernel, by decide +kernel, by decide +kernel, by decide +kernel⟩, rfl, Nat.le_of_ble_eq_true rfl⟩
theorem x_c324 : x_cOK (9275, 0, mX9_laysFactor, 1) := ⟨x_m_X9_laysFactor, fun _ => by decide, ⟨x_tbm 1725 (by decide +kernel) rfl, x_tbm 1727 (by decide +kernel) rfl, x_tbm 45 (by decide +kernel) rfl, ⟨(RX9, TX9, 19), rfl, rfl⟩, rfl⟩⟩
set_option maxRecDepth 100000 in
theorem x_m_X9_month : x_mOK mX9_month 0 := ⟨x_tbm 1732 rfl rfl, x_tbm 62 (by decide +kernel) rfl, ⟨by decide +kernel, by decide +kernel, by decide +kernel, by decide +kernel⟩, rfl, Nat.le_of_ble_eq_true rfl⟩
theorem x_c325 : x_cOK (10288, 0, mX9_month, 1) := ⟨x_m_X9_month, fun _ => by decide, ⟨x_tbm 1729 (by decide +kernel) rfl, x_tbm 1730 (by decide +kernel) rfl, x_tbm 1731 (by decide +kernel) rfl, ⟨(RX9, TX9, 19), rfl, rfl⟩, rfl⟩⟩
set_option maxRecDepth 100000 in
theorem x_m_X9_endMonth : x_mOK mX9_endMonth 0 := ⟨x_tbm 1736 rfl rfl, x_tbm 62 (by decide +kernel) rfl, ⟨by decide +kernel, by decide +kernel, by decide +kernel, by decide +kernel⟩, rfl, Nat.le_of_ble_eq_true rfl⟩
theorem x_c326 : x_cOK (10291, 0, mX9_endMonth, 1) := ⟨x_m_X9_endMonth, fun _ => by decide, ⟨x_tbm 1733 (by decide +kernel) rfl, x_tbm 1734 (by decide +kernel) rfl, x_tbm 1735 (by decide +kernel) rfl, ⟨(RX9, TX9, 19), rfl, rfl⟩, rfl⟩⟩
set_option maxRecDepth 100000 in
theorem x_m_X9_ends : x_mOK mX9_ends 0 := ⟨x_tbm 1740 rfl rfl, x_tbm 62 (by decide +kernel) rfl, ⟨by decide +kernel, by decide +kernel, by decide +kernel, by decide +kernel⟩, rfl, Nat.le_of_ble_eq_true rfl⟩
theorem x_c327 : x_cOK (9283, 0, mX9_ends, 1) := ⟨x_m_X9_ends, fun _ => by decide, ⟨x_tbm 1737 (by decide +kernel) rfl, x_tbm 1739 (by decide +kernel) rfl, x_tbm 46 (by decide +kernel) rfl, ⟨(RX9, TX9, 19), rfl, rfl⟩, rfl⟩⟩
set_option maxRecDepth 100000 in
theorem x_m_X9_chargeOf : x_mOK mX9_chargeOf 1 := ⟨x_tbm 1745 rfl rfl, x_tbm 62 (by decide +kernel) rfl, ⟨by decide +kernel, by decide +kernel, by decide +kernel, by decide +kernel⟩, rfl, Nat.le_of_ble_eq_true rfl⟩
theorem x_c328 : x_cOK (9280, 0, mX9_chargeOf, 2) := ⟨x_m_X9_chargeOf, fun _ => by decide, ⟨x_tbm 1742 (by decide +kernel) rfl, x_tbm 1744 (by decide +kernel) rfl, x_tbm 47 (by decide +kernel) rfl, ⟨(RX9, TX9, 19), rfl, rfl⟩, rfl⟩⟩
set_option maxRecDepth 100000 in
theorem x_m_X9_charge : x_mOK mX9_charge 1 := ⟨x_tbm 1749 rfl rfl, x_tbm 62 (by decide +kernel) rfl, ⟨by decide +kernel, by decide +kernel, by decide +kernel, by decide +kernel⟩, rfl, Nat.le_of_ble_eq_true rfl⟩
theorem x_c329 : x_cOK (10294, 0, mX9_charge, 2) := ⟨x_m_X9_charge, fun _ => by decide, ⟨x_tbm 1746 (by decide +kernel) rfl, x_tbm 1747 (by decide +kernel) rfl, x_tbm 1748 (by decide +kernel) rfl, ⟨(RX9, TX9, 19), rfl, rfl⟩, rfl⟩⟩
set_option maxRecDepth 100000 in
theorem x_m_X9_pay : x_mOK mX9_pay 1 := ⟨x_tbm 1753 rfl rfl, x_tbm 62 (by decide +kernel) rfl, ⟨by decide +kernel, by decide +kernel, by decide +kernel, by decide +kernel⟩, rfl, Nat.le_of_ble_eq_true rfl⟩
theorem x_c330 : x_cOK (10297, 0, mX9_pay, 2) := ⟨x_m_X9_pay, fun _ => by decide, ⟨x_tbm 1750 (by decide +kernel) rfl, x_tbm 1751 (by decide +kernel) rfl, x_tbm 1752 (by decide +kernel) rfl, ⟨(RX9, TX9, 19), rfl, rfl⟩, rfl⟩⟩
set_option maxRecDepth 100000 in
theorem x_m_X9_projectedDebt : x_mOK mX9_projectedDebt 1 := ⟨x_tbm 1757 rfl rfl, x_tbm 62 (by decide +kernel) rfl, ⟨by decide +kernel, by decide +kernel, by decide +kernel, by decide +kernel⟩, rfl, Nat.le_of_ble_eq_true rfl⟩
theorem x_c331 : x_cOK (10304, 0, mX9_projectedDebt, 2) := ⟨x_m_X9_projectedDebt, fun _ => by decide, ⟨x_tbm 1754 (by decide +kernel) rfl, x_tbm 1755 (by decide +kernel) rfl, x_tbm 1756 (by decide +kernel) rfl, ⟨(RX9, TX9, 19), rfl, rfl⟩, rfl⟩⟩
set_option maxRecDepth 100000 in
theorem x_m_X9_debt : x_mOK mX9_debt 0 := ⟨x_tbm 1762 rfl rfl, x_tbm 62 (by decide +kernel) rfl, ⟨by decide +kernel, by decide +kernel, by decide +kernel, by decide +kernel⟩, rfl, Nat.le_of_ble_eq_true rfl⟩
theorem x_c332 : x_cOK (10301, 0, mX9_debt, 1) := ⟨x_m_X9_debt, fun _ => by decide, ⟨x_tbm 1759 (by decide +kernel) rfl, x_tbm 1760 (by decide +kernel) rfl, x_tbm 1761 (by decide +kernel) rfl, ⟨(RX9, TX9, 19), rfl, rfl⟩, rfl⟩⟩
set_option maxRecDepth 100000 in
theorem x_m_X9_adjustment : x_mOK mX9_adjustment 0 := ⟨x_tbm 1766 rfl rfl, x_tbm 62 (by decide +kernel) rfl, ⟨by decide +kernel, by decide +kernel, by decide +kernel, by decide +kernel⟩, rfl, Nat.le_of_ble_eq_true rfl⟩
theorem x_c333 : x_cOK (10308, 0, mX9_adjustment, 1) := ⟨x_m_X9_adjustment, fun _ => by decide, ⟨x_tbm 1763 (by decide +kernel) rfl, x_tbm 1764 (by decide +kernel) rfl, x_tbm 1765 (by decide +kernel) rfl, ⟨(RX9, TX9, 19), rfl, rfl⟩, rfl⟩⟩
set_option maxRecDepth 100000 in
theorem x_m_X9_adjusts : x_mOK mX9_adjusts 0 := ⟨x_tbm 1770 rfl rfl, x_tbm 62 (by decide +kernel) rfl, ⟨by decide +kernel, by decide +kernel, by decide +kernel, by decide +kernel⟩, rfl, Nat.le_of_ble_eq_true rfl⟩
theorem x_c334 : x_cOK (9288, 0, mX9_adjusts, 1) := ⟨x_m_X9_adjusts, fun _ => by decide, ⟨x_tbm 1767 (by decide +kernel) rfl, x_tbm 1769 (by decide +kernel) rfl, x_tbm 48 (by decide +kernel) rfl, ⟨(RX9, TX9, 19), rfl, rfl⟩, rfl⟩⟩
set_option maxRecDepth 100000 in
theorem x_m_X9_close : x_mOK mX9_close 0 := ⟨x_tbm 1774 rfl rfl, x_tbm 62 (by decide +kernel) rfl, ⟨by decide +kernel, by decide +kernel, by decide +kernel, by decide +kernel⟩, rfl, Nat.le_of_ble_eq_true rfl⟩
theorem x_c335 : x_cOK (10311, 0, mX9_close, 1) := ⟨x_m_X9_close, fun _ => by decide, ⟨x_tbm 1771 (by decide +kernel) rfl, x_tbm 1772 (by decide +kernel) rfl, x_tbm 1773 (by decide +kernel) rfl, ⟨(RX9, TX9, 19), rfl, rfl⟩, rfl⟩⟩
set_option maxRecDepth 100000 in
theorem x_m_X9_remaining : x_mOK mX9_remaining 1 := ⟨x_tbm 1778 rfl rfl, x_tbm 62 (by decide +kernel) rfl, ⟨by decide +kernel, by decide +kernel, by decide +kernel, by decide +kernel⟩, rfl, Nat.le_of_ble_eq_true rfl⟩
theorem x_c336 : x_cOK (10314, 0, mX9_remaining, 2) := ⟨x_m_X9_remaining, fun _ => by decide, ⟨x_tbm 1775 (by decide +kernel) rfl, x_tbm 1776 (by decide +kernel) rfl, x_tbm 1777 (by decide +kernel) rfl, ⟨(RX9, TX9, 19), rfl, rfl⟩, rfl⟩⟩
set_option maxRecDepth 100000 in
theorem x_m_X9_declareDefault : x_mOK mX9_declareDefault 0 := ⟨x_tbm 1782 rfl rfl, x_tbm 62 (by decide +kernel) rfl, ⟨by decide +kernel, by decide +kernel, by decide +kernel, by decide +kernel⟩, rfl, Nat.le_of_ble_eq_true rfl⟩
theorem x_c337 : x_cOK (10317, 0, mX9_declareDefault, 1) := ⟨x_m_X9_declareDefault, fun _ => by decide, ⟨x_tbm 1779 (by decide +kernel) rfl, x_tbm 1780 (by decide +kernel) rfl, x_tbm 1781 (by decide +kernel) rfl, ⟨(RX9, TX9, 19), rfl, rfl⟩, rfl⟩⟩
set_option maxRecDepth 100000 in
theorem x_m_X9_remainsInAll : x_mOK mX9_remainsInAll 0 := ⟨x_tbm 1786 rfl rfl, x_tbm 62 (by decide +kernel) rfl, ⟨by decide +kernel, by decide +kernel, by decide +kernel, by decide +kernel⟩, rfl, Nat.le_of_ble_eq_true rfl⟩
theorem x_c338 : x_cOK (9292, 0, mX9_remainsInAll, 1) := ⟨x_m_X9_remainsInAll, fun _ => by decide, ⟨x_tbm 1783 (by decide +kernel) rfl, x_tbm 1785 (by decide +kernel) rfl, x_tbm 49 (by decide +kernel) rfl, ⟨(RX9, TX9, 19), rfl, rfl⟩, rfl⟩⟩
set_option maxRecDepth 100000 in
theorem x_m_X9_damages : x_mOK mX9_damages 0 := ⟨x_tbm 1790 rfl rfl, x_tbm 62 (by decide +kernel) rfl, ⟨by decide +kernel, by decide +kernel, by decide +kernel, by decide +kernel⟩, rfl, Nat.le_of_ble_eq_true rfl⟩
theorem x_c339 : x_cOK (10320, 0, mX9_damages, 1) := ⟨x_m_X9_damages, fun _ => by decide, ⟨x_tbm 1787 (by decide +kernel) rfl, x_tbm 1788 (by decide +kernel) rfl, x_tbm 1789 (by decide +kernel) rfl, ⟨(RX9, TX9, 19), rfl, rfl⟩, rfl⟩⟩
set_option maxRecDepth 100000 in
theorem x_m_X8_copy : x_mOK mX8_copy 2 := ⟨x_tbm 137 rfl rfl, x_tbm 51 (by decide +kernel) rfl, ⟨by decide +kernel, by decide +kernel, by decide +kernel, by decide +kernel⟩, rfl, Nat.le_of_ble_eq_true rfl⟩
theorem x_c340 : x_cOK (7024, 3, mX8_copy, 2) := ⟨x_m_X8_copy, fun _ => by decide, ⟨x_tbm 136 (by decide +kernel) rfl, rfl⟩⟩
theorem x_c341 : x_cOK (2025, 3, mX8_copy, 2) := ⟨x_m_X8_copy, fun _ => by decide, ⟨x_tbm 136 (by decide +kernel) rfl, rfl⟩⟩
theorem x_c342 : x_cOK (37, 3, mX8_copy, 2) := ⟨x_m_X8_copy, fun _ => by decide, ⟨x_tbm 136 (by decide +kernel) rfl, rfl⟩⟩
theorem x_c343 : x_cOK (1048, 3, mX8_copy, 2) := ⟨x_m_X8_copy, fun _ => by decide, ⟨x_tbm 136 (by decide +kernel) rfl, rfl⟩⟩
theorem x_c344 : x_cOK (4034, 3, mX8_copy, 2) := ⟨x_m_X8_copy, fun _ => by decide, ⟨x_tbm 136 (by decide +kernel) rfl, rfl⟩⟩

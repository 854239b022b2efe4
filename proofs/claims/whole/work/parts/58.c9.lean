/-! ===== the class: more readers (laid by wip/whole/src/c9.py) ===== -/
section
variable {X : x_X} {I : Nat → Nat → Int32} {L : Nat → Nat → Int64} {R : Nat → Nat → Option Nat}
theorem c_X4_isChecked (hR : x_wf R) {β : Nat} (hβ : x_sl β) {q : Nat} (hq : q < 60) : x_Cv X mX4_isChecked [.ref (β + 17), .int (Int32.ofNat q)] (I, L, R) 233 (.inl (some (.int (x_b (¬ I (β + 21) q = -1)))), (I, L, R), 233) := by
  show x_Ev X mX4_isChecked 0 [some (.ref (β + 17)), some (.int (Int32.ofNat q))] [] ((I, L, R), 233, 0, 0) _
  refine f_aload_n (M := mX4_isChecked) 1 dX4_isChecked_0 rfl rfl ?_
  refine e_getR (M := mX4_isChecked) dX4_isChecked_1 fl_4021 (x_kk rfl) (sl_lt hβ 17 rfl) (sl_s hβ 17 rfl rfl) (wf_4_6 hR hβ) ?_
  refine f_iload_n (M := mX4_isChecked) 5 dX4_isChecked_4 rfl rfl ?_
  refine e_ild (M := mX4_isChecked) (w := 60) (j := q) dX4_isChecked_5 (sl_lt hβ 21 rfl) (sl_shp hβ 21 rfl) rfl (by omega) (by omega) ?_
  refine f_iconst (M := mX4_isChecked) 7 dX4_isChecked_6 ki_m1 rfl ?_
  refine e_icmp_eq (M := mX4_isChecked) (t := 14) dX4_isChecked_7 rfl (fun h1 => ?_) (fun h1 => ?_)
  · refine f_iconst (M := mX4_isChecked) 15 dX4_isChecked_14 ki_0 rfl ?_
    refine e_rb (M := mX4_isChecked) dX4_isChecked_15 rfl (x_kk rfl) (x_kk rfl) (by decide) ?_
    exact r_b0 (fun z => z h1)
  · refine f_iconst (M := mX4_isChecked) 11 dX4_isChecked_10 ki_1 rfl ?_
    refine f_goto (M := mX4_isChecked) 15 dX4_isChecked_11 rfl ?_
    refine e_rb (M := mX4_isChecked) dX4_isChecked_15 rfl (x_kk rfl) (x_kk rfl) (by decide) ?_
    exact r_b1 h1
def cv_diff (I : Nat → Nat → Int32) (β q : Nat) : Int64 := (if 0 ≤ I (β + 21) q - I (β + 20) q then I (β + 21) q - I (β + 20) q else -(I (β + 21) q - I (β + 20) q)).toInt64
theorem c_X4_isWorse (hR : x_wf R) {β : Nat} (hβ : x_sl β) {q : Nat} (hq : q < 60) {j : Nat} (hj : j < 60) : x_Cv X mX4_isWorse [.ref (β + 17), .int (Int32.ofNat q), .int (Int32.ofNat j)] (I, L, R) 233 (.inl (some (.int (x_b (cv_diff I β j * (I (β + 20) q).toInt64 < cv_diff I β q * (I (β + 20) j).toInt64)))), (I, L, R), 233) := by
  show x_Ev X mX4_isWorse 0 [some (.ref (β + 17)), some (.int (Int32.ofNat q)), some (.int (Int32.ofNat j)), none, none, none, none] [] ((I, L, R), 233, 0, 0) _
  refine f_aload_n (M := mX4_isWorse) 1 dX4_isWorse_0 rfl rfl ?_
  refine e_getR (M := mX4_isWorse) dX4_isWorse_1 fl_4021 (x_kk rfl) (sl_lt hβ 17 rfl) (sl_s hβ 17 rfl rfl) (wf_4_6 hR hβ) ?_
  refine f_iload_n (M := mX4_isWorse) 5 dX4_isWorse_4 rfl rfl ?_
  refine e_ild (M := mX4_isWorse) (w := 60) (j := q) dX4_isWorse_5 (sl_lt hβ 21 rfl) (sl_shp hβ 21 rfl) rfl (by omega) (by omega) ?_
  refine f_aload_n (M := mX4_isWorse) 7 dX4_isWorse_6 rfl rfl ?_
  refine e_getR (M := mX4_isWorse) dX4_isWorse_7 fl_4018 (x_kk rfl) (sl_lt hβ 17 rfl) (sl_s hβ 17 rfl rfl) (wf_4_5 hR hβ) ?_
  refine f_iload_n (M := mX4_isWorse) 11 dX4_isWorse_10 rfl rfl ?_
  refine e_ild (M := mX4_isWorse) (w := 60) (j := q) dX4_isWorse_11 (sl_lt hβ 20 rfl) (sl_shp hβ 20 rfl) rfl (by omega) (by omega) ?_
  refine f_isub (M := mX4_isWorse) 13 dX4_isWorse_12 rfl ?_
  refine e_cS (M := mX4_isWorse) [_] 0 0 dX4_isWorse_13 pa_4056 cc_4056 rfl rfl rfl rfl rfl (x_kk rfl) (x_kk rfl) rfl (c_J9_abs_0f7a4) rfl ?_
  refine f_i2l (M := mX4_isWorse) 17 dX4_isWorse_16 rfl ?_
  refine f_lstore_n (M := mX4_isWorse) (ls' := [_, _, _, _, _, _, _]) 18 dX4_isWorse_17 rfl rfl rfl ?_
  refine f_aload_n (M := mX4_isWorse) 19 dX4_isWorse_18 rfl rfl ?_
  refine e_getR (M := mX4_isWorse) dX4_isWorse_19 fl_4021 (x_kk rfl) (sl_lt hβ 17 rfl) (sl_s hβ 17 rfl rfl) (wf_4_6 hR hβ) ?_
  refine f_iload_n (M := mX4_isWorse) 23 dX4_isWorse_22 rfl rfl ?_
  refine e_ild (M := mX4_isWorse) (w := 60) (j := j) dX4_isWorse_23 (sl_lt hβ 21 rfl) (sl_shp hβ 21 rfl) rfl (by omega) (by omega) ?_
  refine f_aload_n (M := mX4_isWorse) 25 dX4_isWorse_24 rfl rfl ?_
  refine e_getR (M := mX4_isWorse) dX4_isWorse_25 fl_4018 (x_kk rfl) (sl_lt hβ 17 rfl) (sl_s hβ 17 rfl rfl) (wf_4_5 hR hβ) ?_
  refine f_iload_n (M := mX4_isWorse) 29 dX4_isWorse_28 rfl rfl ?_
  refine e_ild (M := mX4_isWorse) (w := 60) (j := j) dX4_isWorse_29 (sl_lt hβ 20 rfl) (sl_shp hβ 20 rfl) rfl (by omega) (by omega) ?_
  refine f_isub (M := mX4_isWorse) 31 dX4_isWorse_30 rfl ?_
  refine e_cS (M := mX4_isWorse) [_] 0 0 dX4_isWorse_31 pa_4056 cc_4056 rfl rfl rfl rfl rfl (x_kk rfl) (x_kk rfl) rfl (c_J9_abs_0f7a4) rfl ?_
  refine f_i2l (M := mX4_isWorse) 35 dX4_isWorse_34 rfl ?_
  refine f_lstore (M := mX4_isWorse) (ls' := [_, _, _, _, _, _, _]) 37 dX4_isWorse_35 rfl rfl rfl ?_
  refine f_lload_n (M := mX4_isWorse) 38 dX4_isWorse_37 rfl rfl ?_
  refine f_aload_n (M := mX4_isWorse) 39 dX4_isWorse_38 rfl rfl ?_
  refine e_getR (M := mX4_isWorse) dX4_isWorse_39 fl_4018 (x_kk rfl) (sl_lt hβ 17 rfl) (sl_s hβ 17 rfl rfl) (wf_4_5 hR hβ) ?_
  refine f_iload_n (M := mX4_isWorse) 43 dX4_isWorse_42 rfl rfl ?_
  refine e_ild (M := mX4_isWorse) (w := 60) (j := j) dX4_isWorse_43 (sl_lt hβ 20 rfl) (sl_shp hβ 20 rfl) rfl (by omega) (by omega) ?_
  refine f_i2l (M := mX4_isWorse) 45 dX4_isWorse_44 rfl ?_
  refine f_lmul (M := mX4_isWorse) 46 dX4_isWorse_45 rfl ?_
  refine f_lload (M := mX4_isWorse) 48 dX4_isWorse_46 rfl rfl ?_
  refine f_aload_n (M := mX4_isWorse) 49 dX4_isWorse_48 rfl rfl ?_
  refine e_getR (M := mX4_isWorse) dX4_isWorse_49 fl_4018 (x_kk rfl) (sl_lt hβ 17 rfl) (sl_s hβ 17 rfl rfl) (wf_4_5 hR hβ) ?_
  refine f_iload_n (M := mX4_isWorse) 53 dX4_isWorse_52 rfl rfl ?_
  refine e_ild (M := mX4_isWorse) (w := 60) (j := q) dX4_isWorse_53 (sl_lt hβ 20 rfl) (sl_shp hβ 20 rfl) rfl (by omega) (by omega) ?_
  refine f_i2l (M := mX4_isWorse) 55 dX4_isWorse_54 rfl ?_
  refine f_lmul (M := mX4_isWorse) 56 dX4_isWorse_55 rfl ?_
  refine f_lcmp (M := mX4_isWorse) 57 dX4_isWorse_56 rfl ?_
  refine e_if_le (M := mX4_isWorse) (t := 64) dX4_isWorse_57 rfl (fun h1 => ?_) (fun h1 => ?_)
  · refine f_iconst (M := mX4_isWorse) 65 dX4_isWorse_64 ki_0 rfl ?_
    refine e_rb (M := mX4_isWorse) dX4_isWorse_65 rfl (x_kk rfl) (x_kk rfl) (by decide) ?_
    exact r_b0 (fun z => absurd (lc_le.mp h1) (l_nle.mpr z))
  · refine f_iconst (M := mX4_isWorse) 61 dX4_isWorse_60 ki_1 rfl ?_
    refine f_goto (M := mX4_isWorse) 65 dX4_isWorse_61 rfl ?_
    refine e_rb (M := mX4_isWorse) dX4_isWorse_65 rfl (x_kk rfl) (x_kk rfl) (by decide) ?_
    exact r_b1 (l_nle.mp (fun z => h1 (lc_le.mpr z)))
theorem c_X2_weightedError (hR : x_wf R) {β : Nat} (hβ : x_sl β) {Np : Nat} (hNp : Np ≤ 30) (hn : I (β + 5) 0 = Int32.ofNat Np) {σ : Int32} (hσ : x_spec σ) : x_Cv X mX2_weightedError [.ref (β + 5), .int σ] (I, L, R) 233 (.inl (some (.long (40000 * ((I (β + 5) 0).toInt64 * cv_sq (I (β + 6)) σ Np - cv_sum (I (β + 6)) σ Np * cv_sum (I (β + 6)) σ Np) * (I (β + 5) 0).toInt64))), (I, L, R), 233) := by
  show x_Ev X mX2_weightedError 0 [some (.ref (β + 5)), some (.int σ)] [] ((I, L, R), 233, 0, 0) _
  refine f_ldc2 (M := mX2_weightedError) 3 dX2_weightedError_0 (x_kk rfl) csl_2039 rfl ?_
  refine f_aload_n (M := mX2_weightedError) 4 dX2_weightedError_3 rfl rfl ?_
  refine f_iload_n (M := mX2_weightedError) 5 dX2_weightedError_4 rfl rfl ?_
  refine e_cV (M := mX2_weightedError) [_, _] 0 0 dX2_weightedError_5 pa_2041 pb_2041 cc_2041 rfl rfl rfl rfl rfl (x_kk rfl) (x_kk rfl) (x_rcvOK (sl_lt hβ 5 rfl) (sl_s hβ 5 rfl rfl) rfl) (c_X2_spread hR hβ hNp hn hσ) rfl ?_
  refine f_lmul (M := mX2_weightedError) 9 dX2_weightedError_8 rfl ?_
  refine f_aload_n (M := mX2_weightedError) 10 dX2_weightedError_9 rfl rfl ?_
  refine e_getI (M := mX2_weightedError) dX2_weightedError_10 fl_2015 (x_kk rfl) (sl_lt hβ 5 rfl) (sl_s hβ 5 rfl rfl) ?_
  refine f_i2l (M := mX2_weightedError) 14 dX2_weightedError_13 rfl ?_
  refine f_lmul (M := mX2_weightedError) 15 dX2_weightedError_14 rfl ?_
  refine e_rl (M := mX2_weightedError) dX2_weightedError_15 rfl (x_kk rfl) (x_kk rfl) ?_
  rfl
theorem c_X2_allowance (hR : x_wf R) {β : Nat} (hβ : x_sl β) {Np : Nat} (hNp : Np ≤ 30) (hn : I (β + 5) 0 = Int32.ofNat Np) {σ : Int32} (hσ : x_spec σ) {p z : Int32} : x_Cv X mX2_allowance [.ref (β + 5), .int σ, .int p, .int z] (I, L, R) 233 (.inl (some (.long (p.toInt64 * p.toInt64 * z.toInt64 * cv_sum (I (β + 6)) σ Np * cv_sum (I (β + 6)) σ Np * (I (β + 5) 0 - 1).toInt64))), (I, L, R), 233) := by
  show x_Ev X mX2_allowance 0 [some (.ref (β + 5)), some (.int σ), some (.int p), some (.int z), none, none] [] ((I, L, R), 233, 0, 0) _
  refine f_aload_n (M := mX2_allowance) 1 dX2_allowance_0 rfl rfl ?_
  refine f_iload_n (M := mX2_allowance) 2 dX2_allowance_1 rfl rfl ?_
  refine e_cV (M := mX2_allowance) [_] 0 0 dX2_allowance_2 pa_2045 pb_2045 cc_2045 rfl rfl rfl rfl rfl (x_kk rfl) (x_kk rfl) (x_rcvOK (sl_lt hβ 5 rfl) (sl_s hβ 5 rfl rfl) rfl) (c_X2_total hR hβ hNp hn hσ) rfl ?_
  refine f_lstore (M := mX2_allowance) (ls' := [_, _, _, _, _, _]) 7 dX2_allowance_5 rfl rfl rfl ?_
  refine f_iload_n (M := mX2_allowance) 8 dX2_allowance_7 rfl rfl ?_
  refine f_i2l (M := mX2_allowance) 9 dX2_allowance_8 rfl ?_
  refine f_iload_n (M := mX2_allowance) 10 dX2_allowance_9 rfl rfl ?_
  refine f_i2l (M := mX2_allowance) 11 dX2_allowance_10 rfl ?_
  refine f_lmul (M := mX2_allowance) 12 dX2_allowance_11 rfl ?_
  refine f_iload_n (M := mX2_allowance) 13 dX2_allowance_12 rfl rfl ?_
  refine f_i2l (M := mX2_allowance) 14 dX2_allowance_13 rfl ?_
  refine f_lmul (M := mX2_allowance) 15 dX2_allowance_14 rfl ?_
  refine f_lload (M := mX2_allowance) 17 dX2_allowance_15 rfl rfl ?_
  refine f_lmul (M := mX2_allowance) 18 dX2_allowance_17 rfl ?_
  refine f_lload (M := mX2_allowance) 20 dX2_allowance_18 rfl rfl ?_
  refine f_lmul (M := mX2_allowance) 21 dX2_allowance_20 rfl ?_
  refine f_aload_n (M := mX2_allowance) 22 dX2_allowance_21 rfl rfl ?_
  refine e_getI (M := mX2_allowance) dX2_allowance_22 fl_2015 (x_kk rfl) (sl_lt hβ 5 rfl) (sl_s hβ 5 rfl rfl) ?_
  refine f_iconst (M := mX2_allowance) 26 dX2_allowance_25 ki_1 rfl ?_
  refine f_isub (M := mX2_allowance) 27 dX2_allowance_26 rfl ?_
  refine f_i2l (M := mX2_allowance) 28 dX2_allowance_27 rfl ?_
  refine f_lmul (M := mX2_allowance) 29 dX2_allowance_28 rfl ?_
  refine e_rl (M := mX2_allowance) dX2_allowance_29 rfl (x_kk rfl) (x_kk rfl) ?_
  rfl
theorem c_X2_roundedEstimate_0 (hR : x_wf R) {β : Nat} (hβ : x_sl β) {Np : Nat} (hNp : Np ≤ 30) (hn : I (β + 5) 0 = Int32.ofNat Np) {σ : Int32} (hσ : x_spec σ) {z : Int32} (h0 : I (β + 5) 0 = 0) : x_Cv X mX2_roundedEstimate [.ref (β + 5), .int σ, .int z] (I, L, R) 233 (.inl (some (.int (0))), (I, L, R), 233) := by
  show x_Ev X mX2_roundedEstimate 0 [some (.ref (β + 5)), some (.int σ), some (.int z)] [] ((I, L, R), 233, 0, 0) _
  refine f_aload_n (M := mX2_roundedEstimate) 1 dX2_roundedEstimate_0 rfl rfl ?_
  refine e_getI (M := mX2_roundedEstimate) dX2_roundedEstimate_1 fl_2015 (x_kk rfl) (sl_lt hβ 5 rfl) (sl_s hβ 5 rfl rfl) ?_
  refine e_if_neF (M := mX2_roundedEstimate) 9 dX2_roundedEstimate_4 rfl (fun z9 => z9 h0) ?_
  refine f_iconst (M := mX2_roundedEstimate) 8 dX2_roundedEstimate_7 ki_0 rfl ?_
  refine e_ri (M := mX2_roundedEstimate) dX2_roundedEstimate_8 rfl (x_kk rfl) (x_kk rfl) ?_
  rfl
theorem c_X2_roundedEstimate_1 (hR : x_wf R) {β : Nat} (hβ : x_sl β) {Np : Nat} (hNp : Np ≤ 30) (hn : I (β + 5) 0 = Int32.ofNat Np) {σ : Int32} (hσ : x_spec σ) {z : Int32} (h0 : ¬ I (β + 5) 0 = 0) (h1 : ¬ (I (β + 5) 0).toInt64 = 0) : x_Cv X mX2_roundedEstimate [.ref (β + 5), .int σ, .int z] (I, L, R) 233 (.inl (some (.int ((z.toInt64 * cv_sum (I (β + 6)) σ Np / (I (β + 5) 0).toInt64).toInt32))), (I, L, R), 233) := by
  show x_Ev X mX2_roundedEstimate 0 [some (.ref (β + 5)), some (.int σ), some (.int z)] [] ((I, L, R), 233, 0, 0) _
  refine f_aload_n (M := mX2_roundedEstimate) 1 dX2_roundedEstimate_0 rfl rfl ?_
  refine e_getI (M := mX2_roundedEstimate) dX2_roundedEstimate_1 fl_2015 (x_kk rfl) (sl_lt hβ 5 rfl) (sl_s hβ 5 rfl rfl) ?_
  refine e_if_neT (M := mX2_roundedEstimate) 9 dX2_roundedEstimate_4 rfl h0 ?_
  refine f_iload_n (M := mX2_roundedEstimate) 10 dX2_roundedEstimate_9 rfl rfl ?_
  refine f_i2l (M := mX2_roundedEstimate) 11 dX2_roundedEstimate_10 rfl ?_
  refine f_aload_n (M := mX2_roundedEstimate) 12 dX2_roundedEstimate_11 rfl rfl ?_
  refine f_iload_n (M := mX2_roundedEstimate) 13 dX2_roundedEstimate_12 rfl rfl ?_
  refine e_cV (M := mX2_roundedEstimate) [_, _] 0 0 dX2_roundedEstimate_13 pa_2045 pb_2045 cc_2045 rfl rfl rfl rfl rfl (x_kk rfl) (x_kk rfl) (x_rcvOK (sl_lt hβ 5 rfl) (sl_s hβ 5 rfl rfl) rfl) (c_X2_total hR hβ hNp hn hσ) rfl ?_
  refine f_lmul (M := mX2_roundedEstimate) 17 dX2_roundedEstimate_16 rfl ?_
  refine f_aload_n (M := mX2_roundedEstimate) 18 dX2_roundedEstimate_17 rfl rfl ?_
  refine e_getI (M := mX2_roundedEstimate) dX2_roundedEstimate_18 fl_2015 (x_kk rfl) (sl_lt hβ 5 rfl) (sl_s hβ 5 rfl rfl) ?_
  refine f_i2l (M := mX2_roundedEstimate) 22 dX2_roundedEstimate_21 rfl ?_
  refine e_ldiv (M := mX2_roundedEstimate) dX2_roundedEstimate_22 h1 ?_
  refine f_l2i (M := mX2_roundedEstimate) 24 dX2_roundedEstimate_23 rfl ?_
  refine e_ri (M := mX2_roundedEstimate) dX2_roundedEstimate_24 rfl (x_kk rfl) (x_kk rfl) ?_
  rfl
end

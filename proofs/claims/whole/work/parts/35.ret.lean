/-! ===== the returns; the fixed references (laid by wip/whole/gen_help2.py) ===== -/
section
variable {X : x_X} {M : x_MI} {pc : Nat} {ls : x_Ls} {μ : x_Mem} {n c k : Nat} {r : x_O × x_Mem × Nat}
theorem x_finE {o : x_O} (hc : c ≤ x_mc M) (hk : k ≤ x_ms M) : x_fin M o (μ, n, c, k) = some (o, μ, n) := by
  unfold x_fin
  rw [if_pos ⟨hc, hk⟩]
theorem e_ri {v : Int32} (hd : decode (x_mb M) pc = .ok (.ireturn, 1)) (hm : x_mr M = some .int) (hc : c ≤ x_mc M) (hk : k ≤ x_ms M) (he : ((.inl (some (.int v)), μ, n) : x_O × x_Mem × Nat) = r) : x_Ev X M pc ls [.int v] (μ, n, c, k) r := by
  refine e_ret hd rfl (v := some (.int v)) ?_ (by rw [← he]; exact x_finE hc hk)
  unfold x_step
  dsimp only
  rw [hm]
  exact if_pos rfl
theorem e_rb {v : Int32} (hd : decode (x_mb M) pc = .ok (.ireturn, 1)) (hm : x_mr M = some .boolean) (hc : c ≤ x_mc M) (hk : k ≤ x_ms M) (hb : narrow .boolean (.int v) = .int v) (he : ((.inl (some (.int v)), μ, n) : x_O × x_Mem × Nat) = r) : x_Ev X M pc ls [.int v] (μ, n, c, k) r := by
  refine e_ret hd rfl (v := some (.int v)) ?_ (by rw [← he]; exact x_finE hc hk)
  unfold x_step
  dsimp only
  rw [hm]
  exact if_pos hb
theorem e_rl {v : Int64} (hd : decode (x_mb M) pc = .ok (.lreturn, 1)) (hm : x_mr M = some .long) (hc : c ≤ x_mc M) (hk : k ≤ x_ms M) (he : ((.inl (some (.long v)), μ, n) : x_O × x_Mem × Nat) = r) : x_Ev X M pc ls [.long v] (μ, n, c, k) r := by
  refine e_ret hd rfl (v := some (.long v)) ?_ (by rw [← he]; exact x_finE hc hk)
  unfold x_step
  dsimp only
  rw [hm]
theorem e_rv (hd : decode (x_mb M) pc = .ok (.return_, 1)) (hm : x_mr M = none) (hc : c ≤ x_mc M) (hk : k ≤ x_ms M) (he : ((.inl none, μ, n) : x_O × x_Mem × Nat) = r) : x_Ev X M pc ls [] (μ, n, c, k) r := by
  refine e_ret hd rfl (v := none) ?_ (by rw [← he]; exact x_finE hc hk)
  unfold x_step
  dsimp only
  rw [hm]
end
/-- the references that never change -/
def x_wf (R : Nat → Nat → Option Nat) : Prop := (∀ β, x_sl β → (R (β + 7) 0 = some (β + 8) ∧ R (β + 7) 1 = some (β + 9) ∧ R (β + 7) 2 = some (β + 10) ∧ R (β + 7) 3 = some (β + 11) ∧ R (β + 12) 0 = some (β + 13) ∧ R (β + 12) 1 = some (β + 14) ∧ R (β + 12) 2 = some (β + 15) ∧ R (β + 12) 3 = some (β + 16) ∧ R (β + 5) 1 = some (β + 6) ∧ R (β + 17) 3 = some (β + 18) ∧ R (β + 17) 4 = some (β + 19) ∧ R (β + 17) 5 = some (β + 20) ∧ R (β + 17) 6 = some (β + 21) ∧ R (β + 0) 1 = some (β + 1) ∧ R (β + 0) 2 = some (β + 5) ∧ R (β + 0) 3 = some (β + 7) ∧ R (β + 0) 4 = some (β + 12) ∧ R (β + 0) 5 = some (β + 17) ∧ R (β + 1) 1 = some (β + 2) ∧ R (β + 1) 2 = some (β + 3) ∧ R (β + 1) 3 = some (β + 4))) ∧ (R 3 0 = some 4 ∧ R 1 0 = some 2 ∧ R 0 0 = some 1 ∧ R 0 1 = some 3 ∧ R 225 0 = some 226 ∧ R 225 1 = some 227 ∧ R 225 2 = some 228 ∧ R 225 3 = some 229 ∧ R 225 4 = some 230 ∧ R 225 7 = some 231)
theorem wf_0_0 {R : Nat → Nat → Option Nat} (hR : x_wf R) {β : Nat} (hβ : x_sl β) : R (β + 7) 0 = some (β + 8) := (hR.1 β hβ).1
theorem wf_0_1 {R : Nat → Nat → Option Nat} (hR : x_wf R) {β : Nat} (hβ : x_sl β) : R (β + 7) 1 = some (β + 9) := (hR.1 β hβ).2.1
theorem wf_0_2 {R : Nat → Nat → Option Nat} (hR : x_wf R) {β : Nat} (hβ : x_sl β) : R (β + 7) 2 = some (β + 10) := (hR.1 β hβ).2.2.1
theorem wf_0_3 {R : Nat → Nat → Option Nat} (hR : x_wf R) {β : Nat} (hβ : x_sl β) : R (β + 7) 3 = some (β + 11) := (hR.1 β hβ).2.2.2.1
theorem wf_1_0 {R : Nat → Nat → Option Nat} (hR : x_wf R) {β : Nat} (hβ : x_sl β) : R (β + 12) 0 = some (β + 13) := (hR.1 β hβ).2.2.2.2.1
theorem wf_1_1 {R : Nat → Nat → Option Nat} (hR : x_wf R) {β : Nat} (hβ : x_sl β) : R (β + 12) 1 = some (β + 14) := (hR.1 β hβ).2.2.2.2.2.1
theorem wf_1_2 {R : Nat → Nat → Option Nat} (hR : x_wf R) {β : Nat} (hβ : x_sl β) : R (β + 12) 2 = some (β + 15) := (hR.1 β hβ).2.2.2.2.2.2.1
theorem wf_1_3 {R : Nat → Nat → Option Nat} (hR : x_wf R) {β : Nat} (hβ : x_sl β) : R (β + 12) 3 = some (β + 16) := (hR.1 β hβ).2.2.2.2.2.2.2.1
theorem wf_2_1 {R : Nat → Nat → Option Nat} (hR : x_wf R) {β : Nat} (hβ : x_sl β) : R (β + 5) 1 = some (β + 6) := (hR.1 β hβ).2.2.2.2.2.2.2.2.1
theorem wf_4_3 {R : Nat → Nat → Option Nat} (hR : x_wf R) {β : Nat} (hβ : x_sl β) : R (β + 17) 3 = some (β + 18) := (hR.1 β hβ).2.2.2.2.2.2.2.2.2.1
theorem wf_4_4 {R : Nat → Nat → Option Nat} (hR : x_wf R) {β : Nat} (hβ : x_sl β) : R (β + 17) 4 = some (β + 19) := (hR.1 β hβ).2.2.2.2.2.2.2.2.2.2.1
theorem wf_4_5 {R : Nat → Nat → Option Nat} (hR : x_wf R) {β : Nat} (hβ : x_sl β) : R (β + 17) 5 = some (β + 20) := (hR.1 β hβ).2.2.2.2.2.2.2.2.2.2.2.1
theorem wf_4_6 {R : Nat → Nat → Option Nat} (hR : x_wf R) {β : Nat} (hβ : x_sl β) : R (β + 17) 6 = some (β + 21) := (hR.1 β hβ).2.2.2.2.2.2.2.2.2.2.2.2.1
theorem wf_6_1 {R : Nat → Nat → Option Nat} (hR : x_wf R) {β : Nat} (hβ : x_sl β) : R (β + 0) 1 = some (β + 1) := (hR.1 β hβ).2.2.2.2.2.2.2.2.2.2.2.2.2.1
theorem wf_6_2 {R : Nat → Nat → Option Nat} (hR : x_wf R) {β : Nat} (hβ : x_sl β) : R (β + 0) 2 = some (β + 5) := (hR.1 β hβ).2.2.2.2.2.2.2.2.2.2.2.2.2.2.1
theorem wf_6_3 {R : Nat → Nat → Option Nat} (hR : x_wf R) {β : Nat} (hβ : x_sl β) : R (β + 0) 3 = some (β + 7) := (hR.1 β hβ).2.2.2.2.2.2.2.2.2.2.2.2.2.2.2.1
theorem wf_6_4 {R : Nat → Nat → Option Nat} (hR : x_wf R) {β : Nat} (hβ : x_sl β) : R (β + 0) 4 = some (β + 12) := (hR.1 β hβ).2.2.2.2.2.2.2.2.2.2.2.2.2.2.2.2.1
theorem wf_6_5 {R : Nat → Nat → Option Nat} (hR : x_wf R) {β : Nat} (hβ : x_sl β) : R (β + 0) 5 = some (β + 17) := (hR.1 β hβ).2.2.2.2.2.2.2.2.2.2.2.2.2.2.2.2.2.1
theorem wf_7_1 {R : Nat → Nat → Option Nat} (hR : x_wf R) {β : Nat} (hβ : x_sl β) : R (β + 1) 1 = some (β + 2) := (hR.1 β hβ).2.2.2.2.2.2.2.2.2.2.2.2.2.2.2.2.2.2.1
theorem wf_7_2 {R : Nat → Nat → Option Nat} (hR : x_wf R) {β : Nat} (hβ : x_sl β) : R (β + 1) 2 = some (β + 3) := (hR.1 β hβ).2.2.2.2.2.2.2.2.2.2.2.2.2.2.2.2.2.2.2.1
theorem wf_7_3 {R : Nat → Nat → Option Nat} (hR : x_wf R) {β : Nat} (hβ : x_sl β) : R (β + 1) 3 = some (β + 4) := (hR.1 β hβ).2.2.2.2.2.2.2.2.2.2.2.2.2.2.2.2.2.2.2.2
theorem wf_3_0 {R : Nat → Nat → Option Nat} (hR : x_wf R) : R 3 0 = some 4 := (hR.2).1
theorem wf_5_0 {R : Nat → Nat → Option Nat} (hR : x_wf R) : R 1 0 = some 2 := (hR.2).2.1
theorem wf_8_0 {R : Nat → Nat → Option Nat} (hR : x_wf R) : R 0 0 = some 1 := (hR.2).2.2.1
theorem wf_8_1 {R : Nat → Nat → Option Nat} (hR : x_wf R) : R 0 1 = some 3 := (hR.2).2.2.2.1
theorem wf_9_0 {R : Nat → Nat → Option Nat} (hR : x_wf R) : R 225 0 = some 226 := (hR.2).2.2.2.2.1
theorem wf_9_1 {R : Nat → Nat → Option Nat} (hR : x_wf R) : R 225 1 = some 227 := (hR.2).2.2.2.2.2.1
theorem wf_9_2 {R : Nat → Nat → Option Nat} (hR : x_wf R) : R 225 2 = some 228 := (hR.2).2.2.2.2.2.2.1
theorem wf_9_3 {R : Nat → Nat → Option Nat} (hR : x_wf R) : R 225 3 = some 229 := (hR.2).2.2.2.2.2.2.2.1
theorem wf_9_4 {R : Nat → Nat → Option Nat} (hR : x_wf R) : R 225 4 = some 230 := (hR.2).2.2.2.2.2.2.2.2.1
theorem wf_9_7 {R : Nat → Nat → Option Nat} (hR : x_wf R) : R 225 7 = some 231 := (hR.2).2.2.2.2.2.2.2.2.2
theorem pa_10153 : x_look 10153 x_obiT = none := rfl
theorem cc_10153 {M : x_MI} : x_cal M 10153 = some (2, mX8_init, 1) := x_calE rfl cl_10153
theorem pa_8009 : x_look 8009 x_obiT = none := rfl
theorem cc_8009 {M : x_MI} : x_cal M 8009 = some (2, mX5_init, 1) := x_calE rfl cl_8009
theorem pa_8018 : x_look 8018 x_obiT = none := rfl
theorem cc_8018 {M : x_MI} : x_cal M 8018 = some (2, mX3_init, 1) := x_calE rfl cl_8018
theorem pa_3017 : x_look 3017 x_obiT = none := rfl
theorem cc_3017 {M : x_MI} : x_cal M 3017 = some (2, mX6_init, 1) := x_calE rfl cl_3017
theorem pa_6011 : x_look 6011 x_obiT = none := rfl
theorem cc_6011 {M : x_MI} : x_cal M 6011 = some (2, mX7_init, 1) := x_calE rfl cl_6011
theorem pa_8093 : x_look 8093 x_cpyT = none := rfl
theorem cc_8093 {M : x_MI} : x_cal M 8093 = some (1, mJ9_min_7cf53, 2) := x_calE rfl cl_8093
theorem pa_6020 : x_look 6020 x_obiT = none := rfl
theorem cc_6020 {M : x_MI} : x_cal M 6020 = some (2, mX2_init, 1) := x_calE rfl cl_6020
theorem pa_6027 : x_look 6027 x_obiT = none := rfl
theorem cc_6027 {M : x_MI} : x_cal M 6027 = some (2, mX0_init, 1) := x_calE rfl cl_6027
theorem pa_6034 : x_look 6034 x_obiT = none := rfl
theorem cc_6034 {M : x_MI} : x_cal M 6034 = some (2, mX1_init, 1) := x_calE rfl cl_6034
theorem pa_6041 : x_look 6041 x_obiT = none := rfl
theorem cc_6041 {M : x_MI} : x_cal M 6041 = some (2, mX4_init, 1) := x_calE rfl cl_6041
theorem pa_8025 : x_look 8025 x_obiT = none := rfl
theorem cc_8025 {M : x_MI} : x_cal M 8025 = some (2, mX6_init, 1) := x_calE rfl cl_8025
theorem pa_10170 : x_look 10170 x_slnT = none := rfl
theorem pb_10170 : x_look 10170 x_schT = none := rfl
theorem cc_10170 {M : x_MI} : x_cal M 10170 = some (0, mX8_errorPosition, 1) := x_calE rfl cl_10170
theorem pa_10174 : x_look 10174 x_slnT = none := rfl
theorem pb_10174 : x_look 10174 x_schT = none := rfl
theorem cc_10174 {M : x_MI} : x_cal M 10174 = some (0, mX8_phase, 1) := x_calE rfl cl_10174
theorem pa_10178 : x_look 10178 x_slnT = none := rfl
theorem pb_10178 : x_look 10178 x_schT = none := rfl
theorem cc_10178 {M : x_MI} : x_cal M 10178 = some (0, mX8_plotCount, 1) := x_calE rfl cl_10178
theorem pa_10280 : x_look 10280 x_slnT = none := rfl
theorem pb_10280 : x_look 10280 x_schT = none := rfl
theorem cc_10280 {M : x_MI} : x_cal M 10280 = some (0, mX8_factor, 2) := x_calE rfl cl_10280
theorem pa_8289 : x_look 8289 x_slnT = none := rfl
theorem pb_8289 : x_look 8289 x_schT = none := rfl
theorem cc_8289 {M : x_MI} : x_cal M 8289 = some (0, mX4_factorDividend, 2) := x_calE rfl cl_8289
theorem pa_4062 : x_look 4062 x_slnT = none := rfl
theorem pb_4062 : x_look 4062 x_schT = none := rfl
theorem cc_4062 {M : x_MI} : x_cal M 4062 = some (0, mX4_needsFactor, 2) := x_calE rfl cl_4062
theorem pa_4056 : x_look 4056 x_cpyT = none := rfl
theorem cc_4056 {M : x_MI} : x_cal M 4056 = some (1, mJ9_abs_0f7a4, 1) := x_calE rfl cl_4056
theorem pa_8292 : x_look 8292 x_slnT = none := rfl
theorem pb_8292 : x_look 8292 x_schT = none := rfl
theorem cc_8292 {M : x_MI} : x_cal M 8292 = some (0, mX4_factorDivisor, 2) := x_calE rfl cl_8292
theorem pa_8117 : x_look 8117 x_cpyT = none := rfl
theorem cc_8117 {M : x_MI} : x_cal M 8117 = some (1, mX8_lowestTerms, 3) := x_calE rfl cl_8117
theorem pa_8357 : x_look 8357 x_cpyT = none := rfl
theorem cc_8357 {M : x_MI} : x_cal M 8357 = some (1, mX8_commonDivisor, 2) := x_calE rfl cl_8357
theorem pa_10285 : x_look 10285 x_slnT = none := rfl
theorem pb_10285 : x_look 10285 x_schT = none := rfl
theorem cc_10285 {M : x_MI} : x_cal M 10285 = some (0, mX8_month, 1) := x_calE rfl cl_10285
theorem pa_10298 : x_look 10298 x_slnT = none := rfl
theorem pb_10298 : x_look 10298 x_schT = none := rfl
theorem cc_10298 {M : x_MI} : x_cal M 10298 = some (0, mX8_debt, 1) := x_calE rfl cl_10298
theorem pa_10305 : x_look 10305 x_slnT = none := rfl
theorem pb_10305 : x_look 10305 x_schT = none := rfl
theorem cc_10305 {M : x_MI} : x_cal M 10305 = some (0, mX8_adjustment, 1) := x_calE rfl cl_10305
theorem pa_8309 : x_look 8309 x_slnT = none := rfl
theorem pb_8309 : x_look 8309 x_schT = none := rfl
theorem cc_8309 {M : x_MI} : x_cal M 8309 = some (0, mX6_unbooked, 1) := x_calE rfl cl_8309
theorem pa_6136 : x_look 6136 x_slnT = none := rfl
theorem pb_6136 : x_look 6136 x_schT = none := rfl
theorem cc_6136 {M : x_MI} : x_cal M 6136 = some (0, mX6_chargeOf, 2) := x_calE rfl cl_6136
theorem pa_6114 : x_look 6114 x_slnT = none := rfl
theorem pb_6114 : x_look 6114 x_schT = none := rfl
theorem cc_6114 {M : x_MI} : x_cal M 6114 = some (0, mX4_factorDividend, 2) := x_calE rfl cl_6114
theorem pa_6118 : x_look 6118 x_slnT = none := rfl
theorem pb_6118 : x_look 6118 x_schT = none := rfl
theorem cc_6118 {M : x_MI} : x_cal M 6118 = some (0, mX4_factorDivisor, 2) := x_calE rfl cl_6118
theorem pa_6123 : x_look 6123 x_slnT = none := rfl
theorem pb_6123 : x_look 6123 x_schT = none := rfl
theorem cc_6123 {M : x_MI} : x_cal M 6123 = some (0, mX4_netSum, 4) := x_calE rfl cl_6123
theorem pa_6127 : x_look 6127 x_slnT = none := rfl
theorem pb_6127 : x_look 6127 x_schT = none := rfl
theorem cc_6127 {M : x_MI} : x_cal M 6127 = some (0, mX1_adjustedRate, 4) := x_calE rfl cl_6127
theorem pa_1063 : x_look 1063 x_slnT = none := rfl
theorem pb_1063 : x_look 1063 x_schT = none := rfl
theorem cc_1063 {M : x_MI} : x_cal M 1063 = some (0, mX1_indexIn, 4) := x_calE rfl cl_1063
theorem pa_1070 : x_look 1070 x_cpyT = none := rfl
theorem cc_1070 {M : x_MI} : x_cal M 1070 = some (1, mJ9_floorDiv_7cf53, 2) := x_calE rfl cl_1070
theorem pa_1079 : x_look 1079 x_cpyT = none := rfl
theorem cc_1079 {M : x_MI} : x_cal M 1079 = some (1, mJ9_max_7cf53, 2) := x_calE rfl cl_1079
theorem pa_10157 : x_look 10157 x_cpyT = none := rfl
theorem cc_10157 {M : x_MI} : x_cal M 10157 = some (4, mL_append, 7) := x_calE rfl cl_10157
theorem pa_10007 : x_look 10007 x_slnT = none := rfl
theorem pb_10007 : x_look 10007 x_schT = none := rfl
theorem cc_10007 {M : x_MI} : x_cal M 10007 = some (0, mX8_append, 6) := x_calE rfl cl_10007
theorem pa_8033 : x_look 8033 x_slnT = none := rfl
theorem pb_8033 : x_look 8033 x_schT = none := rfl
theorem cc_8033 {M : x_MI} : x_cal M 8033 = some (0, mX5_hasRoom, 1) := x_calE rfl cl_8033
theorem pa_8037 : x_look 8037 x_cpyT = none := rfl
theorem cc_8037 {M : x_MI} : x_cal M 8037 = some (1, mX8_requireState, 1) := x_calE rfl cl_8037
theorem pa_8041 : x_look 8041 x_slnT = none := rfl
theorem pb_8041 : x_look 8041 x_schT = none := rfl
theorem cc_8041 {M : x_MI} : x_cal M 8041 = some (0, mX5_take, 2) := x_calE rfl cl_8041
theorem pa_10166 : x_look 10166 x_cpyT = none := rfl
theorem cc_10166 {M : x_MI} : x_cal M 10166 = some (4, mL_load, 3) := x_calE rfl cl_10166
theorem pa_10015 : x_look 10015 x_slnT = none := rfl
theorem pb_10015 : x_look 10015 x_schT = none := rfl
theorem cc_10015 {M : x_MI} : x_cal M 10015 = some (0, mX8_load, 2) := x_calE rfl cl_10015
theorem pa_8049 : x_look 8049 x_cpyT = none := rfl
theorem cc_8049 {M : x_MI} : x_cal M 8049 = some (1, mX8_isIn, 3) := x_calE rfl cl_8049
theorem pa_8053 : x_look 8053 x_cpyT = none := rfl
theorem cc_8053 {M : x_MI} : x_cal M 8053 = some (1, mX8_requireArgument, 1) := x_calE rfl cl_8053
theorem pa_8056 : x_look 8056 x_slnT = none := rfl
theorem pb_8056 : x_look 8056 x_schT = none := rfl
theorem cc_8056 {M : x_MI} : x_cal M 8056 = some (0, mX5_readInto, 3) := x_calE rfl cl_8056
theorem pa_5031 : x_look 5031 x_slnT = none := rfl
theorem pb_5031 : x_look 5031 x_schT = none := rfl
theorem cc_5031 {M : x_MI} : x_cal M 5031 = some (0, mX6_clear, 1) := x_calE rfl cl_5031
theorem pa_6050 : x_look 6050 x_slnT = none := rfl
theorem pb_6050 : x_look 6050 x_schT = none := rfl
theorem cc_6050 {M : x_MI} : x_cal M 6050 = some (0, mX7_clear, 1) := x_calE rfl cl_6050
theorem pa_7032 : x_look 7032 x_cpyT = none := rfl
theorem cc_7032 {M : x_MI} : x_cal M 7032 = some (1, mJ7_fill_53178, 2) := x_calE rfl cl_7032
theorem pa_6053 : x_look 6053 x_slnT = none := rfl
theorem pb_6053 : x_look 6053 x_schT = none := rfl
theorem cc_6053 {M : x_MI} : x_cal M 6053 = some (0, mX2_clear, 1) := x_calE rfl cl_6053
theorem pa_2019 : x_look 2019 x_cpyT = none := rfl
theorem cc_2019 {M : x_MI} : x_cal M 2019 = some (1, mJ7_fill_53178, 2) := x_calE rfl cl_2019
theorem pa_6054 : x_look 6054 x_slnT = none := rfl
theorem pb_6054 : x_look 6054 x_schT = none := rfl
theorem cc_6054 {M : x_MI} : x_cal M 6054 = some (0, mX0_clear, 1) := x_calE rfl cl_6054
theorem pa_28 : x_look 28 x_cpyT = none := rfl
theorem cc_28 {M : x_MI} : x_cal M 28 = some (1, mJ7_fill_53178, 2) := x_calE rfl cl_28
theorem pa_6055 : x_look 6055 x_slnT = none := rfl
theorem pb_6055 : x_look 6055 x_schT = none := rfl
theorem cc_6055 {M : x_MI} : x_cal M 6055 = some (0, mX1_clear, 1) := x_calE rfl cl_6055
theorem pa_1029 : x_look 1029 x_cpyT = none := rfl
theorem cc_1029 {M : x_MI} : x_cal M 1029 = some (1, mJ7_fill_53178, 2) := x_calE rfl cl_1029
theorem pa_1035 : x_look 1035 x_cpyT = none := rfl
theorem cc_1035 {M : x_MI} : x_cal M 1035 = some (1, mJ7_fill_d0a16, 2) := x_calE rfl cl_1035
theorem pa_6056 : x_look 6056 x_slnT = none := rfl
theorem pb_6056 : x_look 6056 x_schT = none := rfl
theorem cc_6056 {M : x_MI} : x_cal M 6056 = some (0, mX4_clear, 1) := x_calE rfl cl_6056
theorem pa_5040 : x_look 5040 x_slnT = none := rfl
theorem pb_5040 : x_look 5040 x_schT = none := rfl
theorem cc_5040 {M : x_MI} : x_cal M 5040 = some (0, mX5_readNumbers, 2) := x_calE rfl cl_5040
theorem pa_5066 : x_look 5066 x_slnT = none := rfl
theorem pb_5066 : x_look 5066 x_schT = none := rfl
theorem cc_5066 {M : x_MI} : x_cal M 5066 = some (0, mX5_readWord, 2) := x_calE rfl cl_5066
theorem pa_5095 : x_look 5095 x_slnT = none := rfl
theorem pb_5095 : x_look 5095 x_schT = none := rfl
theorem cc_5095 {M : x_MI} : x_cal M 5095 = some (0, mX5_startOfToken, 1) := x_calE rfl cl_5095
theorem pa_5127 : x_look 5127 x_slnT = none := rfl
theorem pb_5127 : x_look 5127 x_schT = none := rfl
theorem cc_5127 {M : x_MI} : x_cal M 5127 = some (0, mX5_byteAt, 2) := x_calE rfl cl_5127
theorem pa_5135 : x_look 5135 x_slnT = none := rfl
theorem pb_5135 : x_look 5135 x_schT = none := rfl
theorem cc_5135 {M : x_MI} : x_cal M 5135 = some (0, mX5_isLetter, 2) := x_calE rfl cl_5135
theorem pa_5070 : x_look 5070 x_slnT = none := rfl
theorem pb_5070 : x_look 5070 x_schT = none := rfl
theorem cc_5070 {M : x_MI} : x_cal M 5070 = some (0, mX5_fail, 3) := x_calE rfl cl_5070
theorem pa_5081 : x_look 5081 x_slnT = none := rfl
theorem pb_5081 : x_look 5081 x_schT = none := rfl
theorem cc_5081 {M : x_MI} : x_cal M 5081 = some (0, mX5_readNumber, 3) := x_calE rfl cl_5081
theorem pa_5139 : x_look 5139 x_slnT = none := rfl
theorem pb_5139 : x_look 5139 x_schT = none := rfl
theorem cc_5139 {M : x_MI} : x_cal M 5139 = some (0, mX5_isDigit, 2) := x_calE rfl cl_5139
theorem pa_5111 : x_look 5111 x_cpyT = none := rfl
theorem cc_5111 {M : x_MI} : x_cal M 5111 = some (1, mJ9_min_7cf53, 2) := x_calE rfl cl_5111
theorem pa_5092 : x_look 5092 x_slnT = none := rfl
theorem pb_5092 : x_look 5092 x_schT = none := rfl
theorem cc_5092 {M : x_MI} : x_cal M 5092 = some (0, mX5_readSemicolon, 1) := x_calE rfl cl_5092
theorem pa_5044 : x_look 5044 x_slnT = none := rfl
theorem pb_5044 : x_look 5044 x_schT = none := rfl
theorem cc_5044 {M : x_MI} : x_cal M 5044 = some (0, mX5_readSpecies, 2) := x_calE rfl cl_5044
theorem pa_5051 : x_look 5051 x_slnT = none := rfl
theorem pb_5051 : x_look 5051 x_schT = none := rfl
theorem cc_5051 {M : x_MI} : x_cal M 5051 = some (0, mX5_readPlots, 3) := x_calE rfl cl_5051
theorem pa_5055 : x_look 5055 x_slnT = none := rfl
theorem pb_5055 : x_look 5055 x_schT = none := rfl
theorem cc_5055 {M : x_MI} : x_cal M 5055 = some (0, mX5_readEnd, 1) := x_calE rfl cl_5055
theorem pa_8060 : x_look 8060 x_slnT = none := rfl
theorem pb_8060 : x_look 8060 x_schT = none := rfl
theorem cc_8060 {M : x_MI} : x_cal M 8060 = some (0, mX3_keep, 2) := x_calE rfl cl_8060
theorem pa_3022 : x_look 3022 x_slnT = none := rfl
theorem pb_3022 : x_look 3022 x_schT = none := rfl
theorem cc_3022 {M : x_MI} : x_cal M 3022 = some (0, mX6_copyFrom, 2) := x_calE rfl cl_3022
theorem pa_6057 : x_look 6057 x_slnT = none := rfl
theorem pb_6057 : x_look 6057 x_schT = none := rfl
theorem cc_6057 {M : x_MI} : x_cal M 6057 = some (0, mX7_copyFrom, 2) := x_calE rfl cl_6057
theorem pa_6061 : x_look 6061 x_slnT = none := rfl
theorem pb_6061 : x_look 6061 x_schT = none := rfl
theorem cc_6061 {M : x_MI} : x_cal M 6061 = some (0, mX2_copyFrom, 2) := x_calE rfl cl_6061
theorem pa_6064 : x_look 6064 x_slnT = none := rfl
theorem pb_6064 : x_look 6064 x_schT = none := rfl
theorem cc_6064 {M : x_MI} : x_cal M 6064 = some (0, mX0_copyFrom, 2) := x_calE rfl cl_6064
theorem pa_6067 : x_look 6067 x_slnT = none := rfl
theorem pb_6067 : x_look 6067 x_schT = none := rfl
theorem cc_6067 {M : x_MI} : x_cal M 6067 = some (0, mX1_copyFrom, 2) := x_calE rfl cl_6067
theorem pa_6070 : x_look 6070 x_slnT = none := rfl
theorem pb_6070 : x_look 6070 x_schT = none := rfl
theorem cc_6070 {M : x_MI} : x_cal M 6070 = some (0, mX4_copyFrom, 2) := x_calE rfl cl_6070
theorem pa_3029 : x_look 3029 x_cpyT = none := rfl
theorem cc_3029 {M : x_MI} : x_cal M 3029 = some (1, mJ9_min_7cf53, 2) := x_calE rfl cl_3029
theorem pa_10182 : x_look 10182 x_cpyT = none := rfl
theorem cc_10182 {M : x_MI} : x_cal M 10182 = some (4, mL_addPlot, 8) := x_calE rfl cl_10182
theorem pa_10021 : x_look 10021 x_slnT = none := rfl
theorem pb_10021 : x_look 10021 x_schT = none := rfl
theorem cc_10021 {M : x_MI} : x_cal M 10021 = some (0, mX8_addPlot, 7) := x_calE rfl cl_10021
theorem pa_8079 : x_look 8079 x_slnT = none := rfl
theorem pb_8079 : x_look 8079 x_schT = none := rfl
theorem cc_8079 {M : x_MI} : x_cal M 8079 = some (0, mX8_fitsPlot, 3) := x_calE rfl cl_8079
theorem pa_8161 : x_look 8161 x_slnT = none := rfl
theorem pb_8161 : x_look 8161 x_schT = none := rfl
theorem cc_8161 {M : x_MI} : x_cal M 8161 = some (0, mX8_isSpecies, 2) := x_calE rfl cl_8161
theorem pa_8099 : x_look 8099 x_slnT = none := rfl
theorem pb_8099 : x_look 8099 x_schT = none := rfl
theorem cc_8099 {M : x_MI} : x_cal M 8099 = some (0, mX2_add, 7) := x_calE rfl cl_8099
theorem pa_10186 : x_look 10186 x_cpyT = none := rfl
theorem cc_10186 {M : x_MI} : x_cal M 10186 = some (4, mL_removePlot, 3) := x_calE rfl cl_10186
theorem pa_10025 : x_look 10025 x_slnT = none := rfl
theorem pb_10025 : x_look 10025 x_schT = none := rfl
theorem cc_10025 {M : x_MI} : x_cal M 10025 = some (0, mX8_removePlot, 2) := x_calE rfl cl_10025
theorem pa_8103 : x_look 8103 x_cpyT = none := rfl
theorem cc_8103 {M : x_MI} : x_cal M 8103 = some (1, mX8_requireExisting, 1) := x_calE rfl cl_8103
theorem pa_8106 : x_look 8106 x_slnT = none := rfl
theorem pb_8106 : x_look 8106 x_schT = none := rfl
theorem cc_8106 {M : x_MI} : x_cal M 8106 = some (0, mX2_remove, 2) := x_calE rfl cl_8106
theorem pa_10189 : x_look 10189 x_cpyT = none := rfl
theorem cc_10189 {M : x_MI} : x_cal M 10189 = some (4, mL_estimate, 4) := x_calE rfl cl_10189
theorem pa_10030 : x_look 10030 x_slnT = none := rfl
theorem pb_10030 : x_look 10030 x_schT = none := rfl
theorem cc_10030 {M : x_MI} : x_cal M 10030 = some (0, mX8_estimate, 3) := x_calE rfl cl_10030
theorem pa_8109 : x_look 8109 x_slnT = none := rfl
theorem pb_8109 : x_look 8109 x_schT = none := rfl
theorem cc_8109 {M : x_MI} : x_cal M 8109 = some (0, mX8_isSpeciesOrNone, 2) := x_calE rfl cl_8109
theorem pa_8113 : x_look 8113 x_slnT = none := rfl
theorem pb_8113 : x_look 8113 x_schT = none := rfl
theorem cc_8113 {M : x_MI} : x_cal M 8113 = some (0, mX2_total, 2) := x_calE rfl cl_8113
theorem pa_2035 : x_look 2035 x_slnT = none := rfl
theorem pb_2035 : x_look 2035 x_schT = none := rfl
theorem cc_2035 {M : x_MI} : x_cal M 2035 = some (0, mX2_volumeIn, 3) := x_calE rfl cl_2035
theorem pa_10193 : x_look 10193 x_cpyT = none := rfl
theorem cc_10193 {M : x_MI} : x_cal M 10193 = some (4, mL_squaredError, 4) := x_calE rfl cl_10193
theorem pa_10034 : x_look 10034 x_slnT = none := rfl
theorem pb_10034 : x_look 10034 x_schT = none := rfl
theorem cc_10034 {M : x_MI} : x_cal M 10034 = some (0, mX8_squaredError, 3) := x_calE rfl cl_10034
theorem pa_8121 : x_look 8121 x_slnT = none := rfl
theorem pb_8121 : x_look 8121 x_schT = none := rfl
theorem cc_8121 {M : x_MI} : x_cal M 8121 = some (0, mX2_spread, 2) := x_calE rfl cl_8121
theorem pa_10196 : x_look 10196 x_cpyT = none := rfl
theorem cc_10196 {M : x_MI} : x_cal M 10196 = some (4, mL_isAccurate, 4) := x_calE rfl cl_10196
theorem pa_10037 : x_look 10037 x_slnT = none := rfl
theorem pb_10037 : x_look 10037 x_schT = none := rfl
theorem cc_10037 {M : x_MI} : x_cal M 10037 = some (0, mX8_isAccurate, 3) := x_calE rfl cl_10037
theorem pa_8124 : x_look 8124 x_slnT = none := rfl
theorem pb_8124 : x_look 8124 x_schT = none := rfl
theorem cc_8124 {M : x_MI} : x_cal M 8124 = some (0, mX8_requireAccuracyQuestion, 3) := x_calE rfl cl_8124
theorem pa_8128 : x_look 8128 x_slnT = none := rfl
theorem pb_8128 : x_look 8128 x_schT = none := rfl
theorem cc_8128 {M : x_MI} : x_cal M 8128 = some (0, mX2_weightedError, 2) := x_calE rfl cl_8128
theorem pa_2041 : x_look 2041 x_slnT = none := rfl
theorem pb_2041 : x_look 2041 x_schT = none := rfl
theorem cc_2041 {M : x_MI} : x_cal M 2041 = some (0, mX2_spread, 2) := x_calE rfl cl_2041
theorem pa_8131 : x_look 8131 x_slnT = none := rfl
theorem pb_8131 : x_look 8131 x_schT = none := rfl
theorem cc_8131 {M : x_MI} : x_cal M 8131 = some (0, mX2_allowance, 4) := x_calE rfl cl_8131
theorem pa_2045 : x_look 2045 x_slnT = none := rfl
theorem pb_2045 : x_look 2045 x_schT = none := rfl
theorem cc_2045 {M : x_MI} : x_cal M 2045 = some (0, mX2_total, 2) := x_calE rfl cl_2045
theorem pa_10200 : x_look 10200 x_cpyT = none := rfl
theorem cc_10200 {M : x_MI} : x_cal M 10200 = some (4, mL_neededPlots, 4) := x_calE rfl cl_10200
theorem pa_10041 : x_look 10041 x_slnT = none := rfl
theorem pb_10041 : x_look 10041 x_schT = none := rfl
theorem cc_10041 {M : x_MI} : x_cal M 10041 = some (0, mX8_neededPlots, 3) := x_calE rfl cl_10041
theorem pa_10203 : x_look 10203 x_cpyT = none := rfl
theorem cc_10203 {M : x_MI} : x_cal M 10203 = some (4, mL_mostInfluentialPlot, 3) := x_calE rfl cl_10203
theorem pa_10045 : x_look 10045 x_slnT = none := rfl
theorem pb_10045 : x_look 10045 x_schT = none := rfl
theorem cc_10045 {M : x_MI} : x_cal M 10045 = some (0, mX8_mostInfluentialPlot, 2) := x_calE rfl cl_10045
theorem pa_8135 : x_look 8135 x_slnT = none := rfl
theorem pb_8135 : x_look 8135 x_schT = none := rfl
theorem cc_8135 {M : x_MI} : x_cal M 8135 = some (0, mX2_mostInfluential, 2) := x_calE rfl cl_8135
theorem pa_2050 : x_look 2050 x_cpyT = none := rfl
theorem cc_2050 {M : x_MI} : x_cal M 2050 = some (1, mJ9_abs_067f4, 1) := x_calE rfl cl_2050
theorem pa_10206 : x_look 10206 x_cpyT = none := rfl
theorem cc_10206 {M : x_MI} : x_cal M 10206 = some (4, mL_advertise, 2) := x_calE rfl cl_10206
theorem pa_10048 : x_look 10048 x_slnT = none := rfl
theorem pb_10048 : x_look 10048 x_schT = none := rfl
theorem cc_10048 {M : x_MI} : x_cal M 10048 = some (0, mX8_advertise, 1) := x_calE rfl cl_10048
theorem pa_8142 : x_look 8142 x_slnT = none := rfl
theorem pb_8142 : x_look 8142 x_schT = none := rfl
theorem cc_8142 {M : x_MI} : x_cal M 8142 = some (0, mX6_beginBidding, 1) := x_calE rfl cl_8142
theorem pa_6087 : x_look 6087 x_slnT = none := rfl
theorem pb_6087 : x_look 6087 x_schT = none := rfl
theorem cc_6087 {M : x_MI} : x_cal M 6087 = some (0, mX2_roundedEstimate, 3) := x_calE rfl cl_6087
theorem pa_8145 : x_look 8145 x_slnT = none := rfl
theorem pb_8145 : x_look 8145 x_schT = none := rfl
theorem cc_8145 {M : x_MI} : x_cal M 8145 = some (0, mX6_beginSecondBidding, 1) := x_calE rfl cl_8145
theorem pa_6091 : x_look 6091 x_slnT = none := rfl
theorem pb_6091 : x_look 6091 x_schT = none := rfl
theorem cc_6091 {M : x_MI} : x_cal M 6091 = some (0, mX6_remainingOf, 2) := x_calE rfl cl_6091
theorem pa_8157 : x_look 8157 x_cpyT = none := rfl
theorem cc_8157 {M : x_MI} : x_cal M 8157 = some (1, mX8_sum, 1) := x_calE rfl cl_8157
theorem pa_10210 : x_look 10210 x_cpyT = none := rfl
theorem cc_10210 {M : x_MI} : x_cal M 10210 = some (4, mL_volume, 3) := x_calE rfl cl_10210
theorem pa_10052 : x_look 10052 x_slnT = none := rfl
theorem pb_10052 : x_look 10052 x_schT = none := rfl
theorem cc_10052 {M : x_MI} : x_cal M 10052 = some (0, mX8_volume, 2) := x_calE rfl cl_10052
theorem pa_10213 : x_look 10213 x_cpyT = none := rfl
theorem cc_10213 {M : x_MI} : x_cal M 10213 = some (4, mL_offer, 5) := x_calE rfl cl_10213
theorem pa_10055 : x_look 10055 x_slnT = none := rfl
theorem pb_10055 : x_look 10055 x_schT = none := rfl
theorem cc_10055 {M : x_MI} : x_cal M 10055 = some (0, mX8_offer, 4) := x_calE rfl cl_10055
theorem pa_8164 : x_look 8164 x_cpyT = none := rfl
theorem cc_8164 {M : x_MI} : x_cal M 8164 = some (1, mX8_isBidder, 1) := x_calE rfl cl_8164
theorem pa_8168 : x_look 8168 x_slnT = none := rfl
theorem pb_8168 : x_look 8168 x_schT = none := rfl
theorem cc_8168 {M : x_MI} : x_cal M 8168 = some (0, mX6_isBidding, 1) := x_calE rfl cl_8168
theorem pa_8171 : x_look 8171 x_slnT = none := rfl
theorem pb_8171 : x_look 8171 x_schT = none := rfl
theorem cc_8171 {M : x_MI} : x_cal M 8171 = some (0, mX0_isSealed, 2) := x_calE rfl cl_8171
theorem pa_8174 : x_look 8174 x_slnT = none := rfl
theorem pb_8174 : x_look 8174 x_schT = none := rfl
theorem cc_8174 {M : x_MI} : x_cal M 8174 = some (0, mX0_rateOf, 3) := x_calE rfl cl_8174
theorem pa_8177 : x_look 8177 x_slnT = none := rfl
theorem pb_8177 : x_look 8177 x_schT = none := rfl
theorem cc_8177 {M : x_MI} : x_cal M 8177 = some (0, mX0_setRate, 4) := x_calE rfl cl_8177
theorem pa_10217 : x_look 10217 x_cpyT = none := rfl
theorem cc_10217 {M : x_MI} : x_cal M 10217 = some (4, mL_setDeposit, 4) := x_calE rfl cl_10217
theorem pa_10059 : x_look 10059 x_slnT = none := rfl
theorem pb_10059 : x_look 10059 x_schT = none := rfl
theorem cc_10059 {M : x_MI} : x_cal M 10059 = some (0, mX8_setDeposit, 3) := x_calE rfl cl_10059
theorem pa_10220 : x_look 10220 x_cpyT = none := rfl
theorem cc_10220 {M : x_MI} : x_cal M 10220 = some (4, mL_seal, 3) := x_calE rfl cl_10220
theorem pa_10062 : x_look 10062 x_slnT = none := rfl
theorem pb_10062 : x_look 10062 x_schT = none := rfl
theorem cc_10062 {M : x_MI} : x_cal M 10062 = some (0, mX8_seal, 2) := x_calE rfl cl_10062
theorem pa_8185 : x_look 8185 x_slnT = none := rfl
theorem pb_8185 : x_look 8185 x_schT = none := rfl
theorem cc_8185 {M : x_MI} : x_cal M 8185 = some (0, mX0_sealNext, 2) := x_calE rfl cl_8185
theorem pa_10223 : x_look 10223 x_cpyT = none := rfl
theorem cc_10223 {M : x_MI} : x_cal M 10223 = some (4, mL_withdraw, 2) := x_calE rfl cl_10223
theorem pa_10065 : x_look 10065 x_slnT = none := rfl
theorem pb_10065 : x_look 10065 x_schT = none := rfl
theorem cc_10065 {M : x_MI} : x_cal M 10065 = some (0, mX8_withdraw, 2) := x_calE rfl cl_10065
theorem pa_8188 : x_look 8188 x_slnT = none := rfl
theorem pb_8188 : x_look 8188 x_schT = none := rfl
theorem cc_8188 {M : x_MI} : x_cal M 8188 = some (0, mX0_delete, 2) := x_calE rfl cl_8188
theorem pa_41 : x_look 41 x_slnT = none := rfl
theorem pb_41 : x_look 41 x_schT = none := rfl
theorem cc_41 {M : x_MI} : x_cal M 41 = some (0, mX0_setRate, 4) := x_calE rfl cl_41
theorem pa_10227 : x_look 10227 x_cpyT = none := rfl
theorem cc_10227 {M : x_MI} : x_cal M 10227 = some (4, mL_open, 2) := x_calE rfl cl_10227
theorem pa_10069 : x_look 10069 x_slnT = none := rfl
theorem pb_10069 : x_look 10069 x_schT = none := rfl
theorem cc_10069 {M : x_MI} : x_cal M 10069 = some (0, mX8_open, 1) := x_calE rfl cl_10069
theorem pa_8191 : x_look 8191 x_slnT = none := rfl
theorem pb_8191 : x_look 8191 x_schT = none := rfl
theorem cc_8191 {M : x_MI} : x_cal M 8191 = some (0, mX0_validBids, 2) := x_calE rfl cl_8191
theorem pa_82 : x_look 82 x_slnT = none := rfl
theorem pb_82 : x_look 82 x_schT = none := rfl
theorem cc_82 {M : x_MI} : x_cal M 82 = some (0, mX0_isValid, 3) := x_calE rfl cl_82
theorem pa_78 : x_look 78 x_slnT = none := rfl
theorem pb_78 : x_look 78 x_schT = none := rfl
theorem cc_78 {M : x_MI} : x_cal M 78 = some (0, mX0_problemOf, 3) := x_calE rfl cl_78
theorem pa_49 : x_look 49 x_slnT = none := rfl
theorem pb_49 : x_look 49 x_schT = none := rfl
theorem cc_49 {M : x_MI} : x_cal M 49 = some (0, mX0_isSealed, 2) := x_calE rfl cl_49
theorem pa_53 : x_look 53 x_slnT = none := rfl
theorem pb_53 : x_look 53 x_schT = none := rfl
theorem cc_53 {M : x_MI} : x_cal M 53 = some (0, mX0_hasLowRate, 4) := x_calE rfl cl_53
theorem pa_45 : x_look 45 x_slnT = none := rfl
theorem pb_45 : x_look 45 x_schT = none := rfl
theorem cc_45 {M : x_MI} : x_cal M 45 = some (0, mX0_rateOf, 3) := x_calE rfl cl_45
theorem pa_57 : x_look 57 x_slnT = none := rfl
theorem pb_57 : x_look 57 x_schT = none := rfl
theorem cc_57 {M : x_MI} : x_cal M 57 = some (0, mX0_valueOf, 2) := x_calE rfl cl_57
theorem pa_61 : x_look 61 x_slnT = none := rfl
theorem pb_61 : x_look 61 x_schT = none := rfl
theorem cc_61 {M : x_MI} : x_cal M 61 = some (0, mX0_isDepositTooLow, 4) := x_calE rfl cl_61
theorem pa_10230 : x_look 10230 x_cpyT = none := rfl
theorem cc_10230 {M : x_MI} : x_cal M 10230 = some (4, mL_problem, 3) := x_calE rfl cl_10230
theorem pa_10072 : x_look 10072 x_slnT = none := rfl
theorem pb_10072 : x_look 10072 x_schT = none := rfl
theorem cc_10072 {M : x_MI} : x_cal M 10072 = some (0, mX8_problem, 2) := x_calE rfl cl_10072
theorem pa_8195 : x_look 8195 x_slnT = none := rfl
theorem pb_8195 : x_look 8195 x_schT = none := rfl
theorem cc_8195 {M : x_MI} : x_cal M 8195 = some (0, mX6_hasOpenBids, 1) := x_calE rfl cl_8195
theorem pa_6073 : x_look 6073 x_slnT = none := rfl
theorem pb_6073 : x_look 6073 x_schT = none := rfl
theorem cc_6073 {M : x_MI} : x_cal M 6073 = some (0, mX6_isBidding, 1) := x_calE rfl cl_6073
theorem pa_8198 : x_look 8198 x_slnT = none := rfl
theorem pb_8198 : x_look 8198 x_schT = none := rfl
theorem cc_8198 {M : x_MI} : x_cal M 8198 = some (0, mX0_problemOf, 3) := x_calE rfl cl_8198
theorem pa_10233 : x_look 10233 x_cpyT = none := rfl
theorem cc_10233 {M : x_MI} : x_cal M 10233 = some (4, mL_value, 3) := x_calE rfl cl_10233
theorem pa_10075 : x_look 10075 x_slnT = none := rfl
theorem pb_10075 : x_look 10075 x_schT = none := rfl
theorem cc_10075 {M : x_MI} : x_cal M 10075 = some (0, mX8_value, 2) := x_calE rfl cl_10075
theorem pa_8202 : x_look 8202 x_slnT = none := rfl
theorem pb_8202 : x_look 8202 x_schT = none := rfl
theorem cc_8202 {M : x_MI} : x_cal M 8202 = some (0, mX0_valueOf, 2) := x_calE rfl cl_8202
theorem pa_10236 : x_look 10236 x_cpyT = none := rfl
theorem cc_10236 {M : x_MI} : x_cal M 10236 = some (4, mL_rank, 3) := x_calE rfl cl_10236
theorem pa_10079 : x_look 10079 x_slnT = none := rfl
theorem pb_10079 : x_look 10079 x_schT = none := rfl
theorem cc_10079 {M : x_MI} : x_cal M 10079 = some (0, mX8_rank, 2) := x_calE rfl cl_10079
theorem pa_8205 : x_look 8205 x_slnT = none := rfl
theorem pb_8205 : x_look 8205 x_schT = none := rfl
theorem cc_8205 {M : x_MI} : x_cal M 8205 = some (0, mX0_rankOf, 3) := x_calE rfl cl_8205
theorem pa_90 : x_look 90 x_slnT = none := rfl
theorem pb_90 : x_look 90 x_schT = none := rfl
theorem cc_90 {M : x_MI} : x_cal M 90 = some (0, mX0_beats, 3) := x_calE rfl cl_90
theorem pa_86 : x_look 86 x_slnT = none := rfl
theorem pb_86 : x_look 86 x_schT = none := rfl
theorem cc_86 {M : x_MI} : x_cal M 86 = some (0, mX0_goesBefore, 4) := x_calE rfl cl_86
theorem pa_10239 : x_look 10239 x_cpyT = none := rfl
theorem cc_10239 {M : x_MI} : x_cal M 10239 = some (4, mL_turningPoint, 3) := x_calE rfl cl_10239
theorem pa_10082 : x_look 10082 x_slnT = none := rfl
theorem pb_10082 : x_look 10082 x_schT = none := rfl
theorem cc_10082 {M : x_MI} : x_cal M 10082 = some (0, mX8_turningPoint, 2) := x_calE rfl cl_10082
theorem pa_8208 : x_look 8208 x_slnT = none := rfl
theorem pb_8208 : x_look 8208 x_schT = none := rfl
theorem cc_8208 {M : x_MI} : x_cal M 8208 = some (0, mX0_winner, 2) := x_calE rfl cl_8208
theorem pa_8211 : x_look 8211 x_cpyT = none := rfl
theorem cc_8211 {M : x_MI} : x_cal M 8211 = some (1, mX8_requireFound, 1) := x_calE rfl cl_8211
theorem pa_8214 : x_look 8214 x_slnT = none := rfl
theorem pb_8214 : x_look 8214 x_schT = none := rfl
theorem cc_8214 {M : x_MI} : x_cal M 8214 = some (0, mX0_leastTurningChange, 4) := x_calE rfl cl_8214
theorem pa_94 : x_look 94 x_slnT = none := rfl
theorem pb_94 : x_look 94 x_schT = none := rfl
theorem cc_94 {M : x_MI} : x_cal M 94 = some (0, mX0_turningChange, 4) := x_calE rfl cl_94
theorem pa_107 : x_look 107 x_slnT = none := rfl
theorem pb_107 : x_look 107 x_schT = none := rfl
theorem cc_107 {M : x_MI} : x_cal M 107 = some (0, mX0_growth, 3) := x_calE rfl cl_107
theorem pa_98 : x_look 98 x_slnT = none := rfl
theorem pb_98 : x_look 98 x_schT = none := rfl
theorem cc_98 {M : x_MI} : x_cal M 98 = some (0, mX0_isLessChange, 3) := x_calE rfl cl_98
theorem pa_101 : x_look 101 x_cpyT = none := rfl
theorem cc_101 {M : x_MI} : x_cal M 101 = some (1, mJ9_abs_0f7a4, 1) := x_calE rfl cl_101
theorem pa_10242 : x_look 10242 x_cpyT = none := rfl
theorem cc_10242 {M : x_MI} : x_cal M 10242 = some (4, mL_leastWinningRate, 4) := x_calE rfl cl_10242
theorem pa_10087 : x_look 10087 x_slnT = none := rfl
theorem pb_10087 : x_look 10087 x_schT = none := rfl
theorem cc_10087 {M : x_MI} : x_cal M 10087 = some (0, mX8_leastWinningRate, 3) := x_calE rfl cl_10087
theorem pa_8218 : x_look 8218 x_slnT = none := rfl
theorem pb_8218 : x_look 8218 x_schT = none := rfl
theorem cc_8218 {M : x_MI} : x_cal M 8218 = some (0, mX0_leastRateToWin, 4) := x_calE rfl cl_8218
theorem pa_110 : x_look 110 x_slnT = none := rfl
theorem pb_110 : x_look 110 x_schT = none := rfl
theorem cc_110 {M : x_MI} : x_cal M 110 = some (0, mX0_leastValueToWin, 3) := x_calE rfl cl_110
theorem pa_116 : x_look 116 x_cpyT = none := rfl
theorem cc_116 {M : x_MI} : x_cal M 116 = some (1, mJ9_max_f86c9, 2) := x_calE rfl cl_116
theorem pa_10245 : x_look 10245 x_cpyT = none := rfl
theorem cc_10245 {M : x_MI} : x_cal M 10245 = some (4, mL_award, 2) := x_calE rfl cl_10245
theorem pa_10090 : x_look 10090 x_slnT = none := rfl
theorem pb_10090 : x_look 10090 x_schT = none := rfl
theorem cc_10090 {M : x_MI} : x_cal M 10090 = some (0, mX8_award, 1) := x_calE rfl cl_10090
theorem pa_8221 : x_look 8221 x_slnT = none := rfl
theorem pb_8221 : x_look 8221 x_schT = none := rfl
theorem cc_8221 {M : x_MI} : x_cal M 8221 = some (0, mX6_beginContract, 2) := x_calE rfl cl_8221
theorem pa_6105 : x_look 6105 x_slnT = none := rfl
theorem pb_6105 : x_look 6105 x_schT = none := rfl
theorem cc_6105 {M : x_MI} : x_cal M 6105 = some (0, mX0_rateOf, 3) := x_calE rfl cl_6105
theorem pa_10248 : x_look 10248 x_cpyT = none := rfl
theorem cc_10248 {M : x_MI} : x_cal M 10248 = some (4, mL_setIndex, 4) := x_calE rfl cl_10248
theorem pa_10093 : x_look 10093 x_slnT = none := rfl
theorem pb_10093 : x_look 10093 x_schT = none := rfl
theorem cc_10093 {M : x_MI} : x_cal M 10093 = some (0, mX8_setIndex, 4) := x_calE rfl cl_10093
theorem pa_8224 : x_look 8224 x_cpyT = none := rfl
theorem cc_8224 {M : x_MI} : x_cal M 8224 = some (1, mX8_isQuarter, 1) := x_calE rfl cl_8224
theorem pa_8231 : x_look 8231 x_slnT = none := rfl
theorem pb_8231 : x_look 8231 x_schT = none := rfl
theorem cc_8231 {M : x_MI} : x_cal M 8231 = some (0, mX1_setIndexOf, 4) := x_calE rfl cl_8231
theorem pa_10252 : x_look 10252 x_cpyT = none := rfl
theorem cc_10252 {M : x_MI} : x_cal M 10252 = some (4, mL_rate, 4) := x_calE rfl cl_10252
theorem pa_10097 : x_look 10097 x_slnT = none := rfl
theorem pb_10097 : x_look 10097 x_schT = none := rfl
theorem cc_10097 {M : x_MI} : x_cal M 10097 = some (0, mX8_rate, 3) := x_calE rfl cl_10097
theorem pa_8236 : x_look 8236 x_slnT = none := rfl
theorem pb_8236 : x_look 8236 x_schT = none := rfl
theorem cc_8236 {M : x_MI} : x_cal M 8236 = some (0, mX6_hasContract, 1) := x_calE rfl cl_8236
theorem pa_8239 : x_look 8239 x_slnT = none := rfl
theorem pb_8239 : x_look 8239 x_schT = none := rfl
theorem cc_8239 {M : x_MI} : x_cal M 8239 = some (0, mX1_adjustedRate, 4) := x_calE rfl cl_8239
theorem pa_10255 : x_look 10255 x_cpyT = none := rfl
theorem cc_10255 {M : x_MI} : x_cal M 10255 = some (4, mL_indexFor, 4) := x_calE rfl cl_10255
theorem pa_10100 : x_look 10100 x_slnT = none := rfl
theorem pb_10100 : x_look 10100 x_schT = none := rfl
theorem cc_10100 {M : x_MI} : x_cal M 10100 = some (0, mX8_indexFor, 3) := x_calE rfl cl_10100
theorem pa_8242 : x_look 8242 x_slnT = none := rfl
theorem pb_8242 : x_look 8242 x_schT = none := rfl
theorem cc_8242 {M : x_MI} : x_cal M 8242 = some (0, mX1_leastIndexFor, 4) := x_calE rfl cl_8242
theorem pa_10258 : x_look 10258 x_cpyT = none := rfl
theorem cc_10258 {M : x_MI} : x_cal M 10258 = some (4, mL_scale, 5) := x_calE rfl cl_10258
theorem pa_10103 : x_look 10103 x_slnT = none := rfl
theorem pb_10103 : x_look 10103 x_schT = none := rfl
theorem cc_10103 {M : x_MI} : x_cal M 10103 = some (0, mX8_scale, 4) := x_calE rfl cl_10103
theorem pa_8257 : x_look 8257 x_cpyT = none := rfl
theorem cc_8257 {M : x_MI} : x_cal M 8257 = some (1, mX8_netVolume, 2) := x_calE rfl cl_8257
theorem pa_8260 : x_look 8260 x_slnT = none := rfl
theorem pb_8260 : x_look 8260 x_schT = none := rfl
theorem cc_8260 {M : x_MI} : x_cal M 8260 = some (0, mX4_add, 4) := x_calE rfl cl_8260
theorem pa_10261 : x_look 10261 x_cpyT = none := rfl
theorem cc_10261 {M : x_MI} : x_cal M 10261 = some (4, mL_check, 5) := x_calE rfl cl_10261
theorem pa_10106 : x_look 10106 x_slnT = none := rfl
theorem pb_10106 : x_look 10106 x_schT = none := rfl
theorem cc_10106 {M : x_MI} : x_cal M 10106 = some (0, mX8_check, 4) := x_calE rfl cl_10106
theorem pa_8262 : x_look 8262 x_slnT = none := rfl
theorem pb_8262 : x_look 8262 x_schT = none := rfl
theorem cc_8262 {M : x_MI} : x_cal M 8262 = some (0, mX8_isLoad, 2) := x_calE rfl cl_8262
theorem pa_8265 : x_look 8265 x_slnT = none := rfl
theorem pb_8265 : x_look 8265 x_schT = none := rfl
theorem cc_8265 {M : x_MI} : x_cal M 8265 = some (0, mX4_isChecked, 2) := x_calE rfl cl_8265
theorem pa_8268 : x_look 8268 x_slnT = none := rfl
theorem pb_8268 : x_look 8268 x_schT = none := rfl
theorem cc_8268 {M : x_MI} : x_cal M 8268 = some (0, mX4_setCheck, 3) := x_calE rfl cl_8268
theorem pa_10264 : x_look 10264 x_cpyT = none := rfl
theorem cc_10264 {M : x_MI} : x_cal M 10264 = some (4, mL_voidLoad, 3) := x_calE rfl cl_10264
theorem pa_10109 : x_look 10109 x_slnT = none := rfl
theorem pb_10109 : x_look 10109 x_schT = none := rfl
theorem cc_10109 {M : x_MI} : x_cal M 10109 = some (0, mX8_voidLoad, 2) := x_calE rfl cl_10109
theorem pa_8277 : x_look 8277 x_slnT = none := rfl
theorem pb_8277 : x_look 8277 x_schT = none := rfl
theorem cc_8277 {M : x_MI} : x_cal M 8277 = some (0, mX4_remove, 2) := x_calE rfl cl_8277
theorem pa_4038 : x_look 4038 x_slnT = none := rfl
theorem pb_4038 : x_look 4038 x_schT = none := rfl
theorem cc_4038 {M : x_MI} : x_cal M 4038 = some (0, mX4_closeGap, 3) := x_calE rfl cl_4038
theorem pa_10267 : x_look 10267 x_cpyT = none := rfl
theorem cc_10267 {M : x_MI} : x_cal M 10267 = some (4, mL_worstCheck, 2) := x_calE rfl cl_10267
theorem pa_10112 : x_look 10112 x_slnT = none := rfl
theorem pb_10112 : x_look 10112 x_schT = none := rfl
theorem cc_10112 {M : x_MI} : x_cal M 10112 = some (0, mX8_worstCheck, 1) := x_calE rfl cl_10112
theorem pa_8278 : x_look 8278 x_slnT = none := rfl
theorem pb_8278 : x_look 8278 x_schT = none := rfl
theorem cc_8278 {M : x_MI} : x_cal M 8278 = some (0, mX4_worstChecked, 1) := x_calE rfl cl_8278
theorem pa_4048 : x_look 4048 x_slnT = none := rfl
theorem pb_4048 : x_look 4048 x_schT = none := rfl
theorem cc_4048 {M : x_MI} : x_cal M 4048 = some (0, mX4_isChecked, 2) := x_calE rfl cl_4048
theorem pa_4052 : x_look 4052 x_slnT = none := rfl
theorem pb_4052 : x_look 4052 x_schT = none := rfl
theorem cc_4052 {M : x_MI} : x_cal M 4052 = some (0, mX4_isWorse, 3) := x_calE rfl cl_4052
theorem pa_10270 : x_look 10270 x_cpyT = none := rfl
theorem cc_10270 {M : x_MI} : x_cal M 10270 = some (4, mL_scaled, 5) := x_calE rfl cl_10270
theorem pa_10115 : x_look 10115 x_slnT = none := rfl
theorem pb_10115 : x_look 10115 x_schT = none := rfl
theorem cc_10115 {M : x_MI} : x_cal M 10115 = some (0, mX8_scaled, 4) := x_calE rfl cl_10115
theorem pa_8282 : x_look 8282 x_slnT = none := rfl
theorem pb_8282 : x_look 8282 x_schT = none := rfl
theorem cc_8282 {M : x_MI} : x_cal M 8282 = some (0, mX4_netSum, 4) := x_calE rfl cl_8282
theorem pa_10273 : x_look 10273 x_cpyT = none := rfl
theorem cc_10273 {M : x_MI} : x_cal M 10273 = some (4, mL_cutShare, 3) := x_calE rfl cl_10273
theorem pa_10118 : x_look 10118 x_slnT = none := rfl
theorem pb_10118 : x_look 10118 x_schT = none := rfl
theorem cc_10118 {M : x_MI} : x_cal M 10118 = some (0, mX8_cutShare, 2) := x_calE rfl cl_10118
theorem pa_10277 : x_look 10277 x_cpyT = none := rfl
theorem cc_10277 {M : x_MI} : x_cal M 10277 = some (4, mL_net, 3) := x_calE rfl cl_10277
theorem pa_10122 : x_look 10122 x_slnT = none := rfl
theorem pb_10122 : x_look 10122 x_schT = none := rfl
theorem cc_10122 {M : x_MI} : x_cal M 10122 = some (0, mX8_net, 2) := x_calE rfl cl_10122
theorem pa_10289 : x_look 10289 x_cpyT = none := rfl
theorem cc_10289 {M : x_MI} : x_cal M 10289 = some (4, mL_endMonth, 2) := x_calE rfl cl_10289
theorem pa_10125 : x_look 10125 x_slnT = none := rfl
theorem pb_10125 : x_look 10125 x_schT = none := rfl
theorem cc_10125 {M : x_MI} : x_cal M 10125 = some (0, mX8_endMonth, 1) := x_calE rfl cl_10125
theorem pa_8295 : x_look 8295 x_slnT = none := rfl
theorem pb_8295 : x_look 8295 x_schT = none := rfl
theorem cc_8295 {M : x_MI} : x_cal M 8295 = some (0, mX6_bookMonth, 1) := x_calE rfl cl_8295
theorem pa_6147 : x_look 6147 x_slnT = none := rfl
theorem pb_6147 : x_look 6147 x_schT = none := rfl
theorem cc_6147 {M : x_MI} : x_cal M 6147 = some (0, mX6_withInterest, 2) := x_calE rfl cl_6147
theorem pa_10292 : x_look 10292 x_cpyT = none := rfl
theorem cc_10292 {M : x_MI} : x_cal M 10292 = some (4, mL_charge, 3) := x_calE rfl cl_10292
theorem pa_10129 : x_look 10129 x_slnT = none := rfl
theorem pb_10129 : x_look 10129 x_schT = none := rfl
theorem cc_10129 {M : x_MI} : x_cal M 10129 = some (0, mX8_charge, 2) := x_calE rfl cl_10129
theorem pa_8302 : x_look 8302 x_slnT = none := rfl
theorem pb_8302 : x_look 8302 x_schT = none := rfl
theorem cc_8302 {M : x_MI} : x_cal M 8302 = some (0, mX6_chargeOf, 2) := x_calE rfl cl_8302
theorem pa_10295 : x_look 10295 x_cpyT = none := rfl
theorem cc_10295 {M : x_MI} : x_cal M 10295 = some (4, mL_pay, 3) := x_calE rfl cl_10295
theorem pa_10132 : x_look 10132 x_slnT = none := rfl
theorem pb_10132 : x_look 10132 x_schT = none := rfl
theorem cc_10132 {M : x_MI} : x_cal M 10132 = some (0, mX8_pay, 2) := x_calE rfl cl_10132
theorem pa_10302 : x_look 10302 x_cpyT = none := rfl
theorem cc_10302 {M : x_MI} : x_cal M 10302 = some (4, mL_projectedDebt, 3) := x_calE rfl cl_10302
theorem pa_10135 : x_look 10135 x_slnT = none := rfl
theorem pb_10135 : x_look 10135 x_schT = none := rfl
theorem cc_10135 {M : x_MI} : x_cal M 10135 = some (0, mX8_projectedDebt, 2) := x_calE rfl cl_10135
theorem pa_8305 : x_look 8305 x_slnT = none := rfl
theorem pb_8305 : x_look 8305 x_schT = none := rfl
theorem cc_8305 {M : x_MI} : x_cal M 8305 = some (0, mX6_withInterest, 2) := x_calE rfl cl_8305
theorem pa_10309 : x_look 10309 x_cpyT = none := rfl
theorem cc_10309 {M : x_MI} : x_cal M 10309 = some (4, mL_close, 2) := x_calE rfl cl_10309
theorem pa_10138 : x_look 10138 x_slnT = none := rfl
theorem pb_10138 : x_look 10138 x_schT = none := rfl
theorem cc_10138 {M : x_MI} : x_cal M 10138 = some (0, mX8_close, 1) := x_calE rfl cl_10138
theorem pa_8313 : x_look 8313 x_slnT = none := rfl
theorem pb_8313 : x_look 8313 x_schT = none := rfl
theorem cc_8313 {M : x_MI} : x_cal M 8313 = some (0, mX6_closeContract, 1) := x_calE rfl cl_8313
theorem pa_6151 : x_look 6151 x_slnT = none := rfl
theorem pb_6151 : x_look 6151 x_schT = none := rfl
theorem cc_6151 {M : x_MI} : x_cal M 6151 = some (0, mX6_bookMonth, 1) := x_calE rfl cl_6151
theorem pa_6154 : x_look 6154 x_slnT = none := rfl
theorem pb_6154 : x_look 6154 x_schT = none := rfl
theorem cc_6154 {M : x_MI} : x_cal M 6154 = some (0, mX6_unbooked, 1) := x_calE rfl cl_6154
theorem pa_10312 : x_look 10312 x_cpyT = none := rfl
theorem cc_10312 {M : x_MI} : x_cal M 10312 = some (4, mL_remaining, 3) := x_calE rfl cl_10312
theorem pa_10141 : x_look 10141 x_slnT = none := rfl
theorem pb_10141 : x_look 10141 x_schT = none := rfl
theorem cc_10141 {M : x_MI} : x_cal M 10141 = some (0, mX8_remaining, 2) := x_calE rfl cl_10141
theorem pa_8316 : x_look 8316 x_slnT = none := rfl
theorem pb_8316 : x_look 8316 x_schT = none := rfl
theorem cc_8316 {M : x_MI} : x_cal M 8316 = some (0, mX6_remainingOf, 2) := x_calE rfl cl_8316
theorem pa_10315 : x_look 10315 x_cpyT = none := rfl
theorem cc_10315 {M : x_MI} : x_cal M 10315 = some (4, mL_declareDefault, 2) := x_calE rfl cl_10315
theorem pa_10144 : x_look 10144 x_slnT = none := rfl
theorem pb_10144 : x_look 10144 x_schT = none := rfl
theorem cc_10144 {M : x_MI} : x_cal M 10144 = some (0, mX8_declareDefault, 1) := x_calE rfl cl_10144
theorem pa_8319 : x_look 8319 x_slnT = none := rfl
theorem pb_8319 : x_look 8319 x_schT = none := rfl
theorem cc_8319 {M : x_MI} : x_cal M 8319 = some (0, mX6_isInDefault, 1) := x_calE rfl cl_8319
theorem pa_6158 : x_look 6158 x_slnT = none := rfl
theorem pb_6158 : x_look 6158 x_schT = none := rfl
theorem cc_6158 {M : x_MI} : x_cal M 6158 = some (0, mX6_remainingSum, 1) := x_calE rfl cl_6158
theorem pa_8322 : x_look 8322 x_slnT = none := rfl
theorem pb_8322 : x_look 8322 x_schT = none := rfl
theorem cc_8322 {M : x_MI} : x_cal M 8322 = some (0, mX6_remainingSum, 1) := x_calE rfl cl_8322
theorem pa_10318 : x_look 10318 x_cpyT = none := rfl
theorem cc_10318 {M : x_MI} : x_cal M 10318 = some (4, mL_damages, 2) := x_calE rfl cl_10318
theorem pa_10147 : x_look 10147 x_slnT = none := rfl
theorem pb_10147 : x_look 10147 x_schT = none := rfl
theorem cc_10147 {M : x_MI} : x_cal M 10147 = some (0, mX8_damages, 1) := x_calE rfl cl_10147
theorem pa_8325 : x_look 8325 x_slnT = none := rfl
theorem pb_8325 : x_look 8325 x_schT = none := rfl
theorem cc_8325 {M : x_MI} : x_cal M 8325 = some (0, mX6_lossByResale, 1) := x_calE rfl cl_8325
theorem pa_6162 : x_look 6162 x_slnT = none := rfl
theorem pb_6162 : x_look 6162 x_schT = none := rfl
theorem cc_6162 {M : x_MI} : x_cal M 6162 = some (0, mX0_winner, 2) := x_calE rfl cl_6162
theorem pa_6166 : x_look 6166 x_slnT = none := rfl
theorem pb_6166 : x_look 6166 x_schT = none := rfl
theorem cc_6166 {M : x_MI} : x_cal M 6166 = some (0, mX0_valueOf, 2) := x_calE rfl cl_6166
theorem pa_10321 : x_look 10321 x_cpyT = none := rfl
theorem cc_10321 {M : x_MI} : x_cal M 10321 = some (4, mL_undo, 2) := x_calE rfl cl_10321
theorem pa_10150 : x_look 10150 x_slnT = none := rfl
theorem pb_10150 : x_look 10150 x_schT = none := rfl
theorem cc_10150 {M : x_MI} : x_cal M 10150 = some (0, mX8_undo, 1) := x_calE rfl cl_10150
theorem pa_8331 : x_look 8331 x_slnT = none := rfl
theorem pb_8331 : x_look 8331 x_schT = none := rfl
theorem cc_8331 {M : x_MI} : x_cal M 8331 = some (0, mX3_takeBack, 2) := x_calE rfl cl_8331
theorem pa_10156 : x_look 10156 x_obiT = none := rfl
theorem cc_10156 {M : x_MI} : x_cal M 10156 = some (2, mX9_init, 1) := x_calE rfl cl_10156
theorem pa_10163 : x_look 10163 x_slnT = none := rfl
theorem pb_10163 : x_look 10163 x_schT = none := rfl
theorem cc_10163 {M : x_MI} : x_cal M 10163 = some (0, mX9_thrown, 1) := x_calE rfl cl_10163
theorem pa_10323 : x_look 10323 x_slnT = none := rfl
theorem pb_10323 : x_look 10323 x_schT = none := rfl
theorem cc_10323 {M : x_MI} : x_cal M 10323 = some (0, mX9_undo, 1) := x_calE rfl cl_10323
theorem pa_10162 : x_look 10162 x_slnT = none := rfl
theorem pb_10162 : x_look 10162 x_schT = none := rfl
theorem cc_10162 {M : x_MI} : x_cal M 10162 = some (0, mX9_append, 6) := x_calE rfl cl_10162
theorem pa_10169 : x_look 10169 x_slnT = none := rfl
theorem pb_10169 : x_look 10169 x_schT = none := rfl
theorem cc_10169 {M : x_MI} : x_cal M 10169 = some (0, mX9_load, 2) := x_calE rfl cl_10169
theorem pa_9074 : x_look 9074 x_cpyT = none := rfl
theorem cc_9074 {M : x_MI} : x_cal M 9074 = some (1, mX9_isIn, 3) := x_calE rfl cl_9074
theorem pa_9107 : x_look 9107 x_slnT = none := rfl
theorem pb_9107 : x_look 9107 x_schT = none := rfl
theorem cc_9107 {M : x_MI} : x_cal M 9107 = some (0, mX9_next, 1) := x_calE rfl cl_9107
theorem pa_9063 : x_look 9063 x_slnT = none := rfl
theorem pb_9063 : x_look 9063 x_schT = none := rfl
theorem cc_9063 {M : x_MI} : x_cal M 9063 = some (0, mX9_see, 2) := x_calE rfl cl_9063
theorem pa_9078 : x_look 9078 x_slnT = none := rfl
theorem pb_9078 : x_look 9078 x_schT = none := rfl
theorem cc_9078 {M : x_MI} : x_cal M 9078 = some (0, mX9_wordAt, 1) := x_calE rfl cl_9078
theorem pa_9125 : x_look 9125 x_slnT = none := rfl
theorem pb_9125 : x_look 9125 x_schT = none := rfl
theorem cc_9125 {M : x_MI} : x_cal M 9125 = some (0, mX9_readsAll, 1) := x_calE rfl cl_9125
theorem pa_9110 : x_look 9110 x_slnT = none := rfl
theorem pb_9110 : x_look 9110 x_schT = none := rfl
theorem cc_9110 {M : x_MI} : x_cal M 9110 = some (0, mX9_must, 2) := x_calE rfl cl_9110
theorem pa_9099 : x_look 9099 x_slnT = none := rfl
theorem pb_9099 : x_look 9099 x_schT = none := rfl
theorem cc_9099 {M : x_MI} : x_cal M 9099 = some (0, mX9_is, 2) := x_calE rfl cl_9099
theorem pa_9103 : x_look 9103 x_slnT = none := rfl
theorem pb_9103 : x_look 9103 x_schT = none := rfl
theorem cc_9103 {M : x_MI} : x_cal M 9103 = some (0, mX9_fails, 2) := x_calE rfl cl_9103
theorem pa_9114 : x_look 9114 x_slnT = none := rfl
theorem pb_9114 : x_look 9114 x_schT = none := rfl
theorem cc_9114 {M : x_MI} : x_cal M 9114 = some (0, mX9_takes, 3) := x_calE rfl cl_9114
theorem pa_9119 : x_look 9119 x_slnT = none := rfl
theorem pb_9119 : x_look 9119 x_schT = none := rfl
theorem cc_9119 {M : x_MI} : x_cal M 9119 = some (0, mX9_readsSpecies, 1) := x_calE rfl cl_9119
theorem pa_9122 : x_look 9122 x_slnT = none := rfl
theorem pb_9122 : x_look 9122 x_schT = none := rfl
theorem cc_9122 {M : x_MI} : x_cal M 9122 = some (0, mX9_readsPlot, 1) := x_calE rfl cl_9122
theorem pa_9128 : x_look 9128 x_slnT = none := rfl
theorem pb_9128 : x_look 9128 x_schT = none := rfl
theorem cc_9128 {M : x_MI} : x_cal M 9128 = some (0, mX9_keeps, 1) := x_calE rfl cl_9128
theorem pa_10173 : x_look 10173 x_slnT = none := rfl
theorem pb_10173 : x_look 10173 x_schT = none := rfl
theorem cc_10173 {M : x_MI} : x_cal M 10173 = some (0, mX9_errorPosition, 1) := x_calE rfl cl_10173
theorem pa_10177 : x_look 10177 x_slnT = none := rfl
theorem pb_10177 : x_look 10177 x_schT = none := rfl
theorem cc_10177 {M : x_MI} : x_cal M 10177 = some (0, mX9_phase, 1) := x_calE rfl cl_10177
theorem pa_10181 : x_look 10181 x_slnT = none := rfl
theorem pb_10181 : x_look 10181 x_schT = none := rfl
theorem cc_10181 {M : x_MI} : x_cal M 10181 = some (0, mX9_plotCount, 1) := x_calE rfl cl_10181
theorem pa_10185 : x_look 10185 x_slnT = none := rfl
theorem pb_10185 : x_look 10185 x_schT = none := rfl
theorem cc_10185 {M : x_MI} : x_cal M 10185 = some (0, mX9_addPlot, 7) := x_calE rfl cl_10185
theorem pa_9133 : x_look 9133 x_cpyT = none := rfl
theorem cc_9133 {M : x_MI} : x_cal M 9133 = some (1, mX9_isVolume, 2) := x_calE rfl cl_9133
theorem pa_10188 : x_look 10188 x_slnT = none := rfl
theorem pb_10188 : x_look 10188 x_schT = none := rfl
theorem cc_10188 {M : x_MI} : x_cal M 10188 = some (0, mX9_removePlot, 2) := x_calE rfl cl_10188
theorem pa_10192 : x_look 10192 x_slnT = none := rfl
theorem pb_10192 : x_look 10192 x_schT = none := rfl
theorem cc_10192 {M : x_MI} : x_cal M 10192 = some (0, mX9_estimate, 3) := x_calE rfl cl_10192
theorem pa_9151 : x_look 9151 x_slnT = none := rfl
theorem pb_9151 : x_look 9151 x_schT = none := rfl
theorem cc_9151 {M : x_MI} : x_cal M 9151 = some (0, mX9_isAny, 2) := x_calE rfl cl_9151
theorem pa_9137 : x_look 9137 x_slnT = none := rfl
theorem pb_9137 : x_look 9137 x_schT = none := rfl
theorem cc_9137 {M : x_MI} : x_cal M 9137 = some (0, mX9_isSpecies, 2) := x_calE rfl cl_9137
theorem pa_9143 : x_look 9143 x_slnT = none := rfl
theorem pb_9143 : x_look 9143 x_schT = none := rfl
theorem cc_9143 {M : x_MI} : x_cal M 9143 = some (0, mX9_sumOf, 2) := x_calE rfl cl_9143
theorem pa_9140 : x_look 9140 x_slnT = none := rfl
theorem pb_9140 : x_look 9140 x_schT = none := rfl
theorem cc_9140 {M : x_MI} : x_cal M 9140 = some (0, mX9_inPlot, 3) := x_calE rfl cl_9140
theorem pa_9154 : x_look 9154 x_cpyT = none := rfl
theorem cc_9154 {M : x_MI} : x_cal M 9154 = some (1, mX9_part, 3) := x_calE rfl cl_9154
theorem pa_10195 : x_look 10195 x_slnT = none := rfl
theorem pb_10195 : x_look 10195 x_schT = none := rfl
theorem cc_10195 {M : x_MI} : x_cal M 10195 = some (0, mX9_squaredError, 3) := x_calE rfl cl_10195
theorem pa_9158 : x_look 9158 x_slnT = none := rfl
theorem pb_9158 : x_look 9158 x_schT = none := rfl
theorem cc_9158 {M : x_MI} : x_cal M 9158 = some (0, mX9_spreadOf, 2) := x_calE rfl cl_9158
theorem pa_10199 : x_look 10199 x_slnT = none := rfl
theorem pb_10199 : x_look 10199 x_schT = none := rfl
theorem cc_10199 {M : x_MI} : x_cal M 10199 = some (0, mX9_isAccurate, 3) := x_calE rfl cl_10199
theorem pa_9163 : x_look 9163 x_slnT = none := rfl
theorem pb_9163 : x_look 9163 x_schT = none := rfl
theorem cc_9163 {M : x_MI} : x_cal M 9163 = some (0, mX9_refusal, 3) := x_calE rfl cl_9163
theorem pa_10202 : x_look 10202 x_slnT = none := rfl
theorem pb_10202 : x_look 10202 x_schT = none := rfl
theorem cc_10202 {M : x_MI} : x_cal M 10202 = some (0, mX9_neededPlots, 3) := x_calE rfl cl_10202
theorem pa_10205 : x_look 10205 x_slnT = none := rfl
theorem pb_10205 : x_look 10205 x_schT = none := rfl
theorem cc_10205 {M : x_MI} : x_cal M 10205 = some (0, mX9_mostInfluentialPlot, 2) := x_calE rfl cl_10205
theorem pa_10209 : x_look 10209 x_slnT = none := rfl
theorem pb_10209 : x_look 10209 x_schT = none := rfl
theorem cc_10209 {M : x_MI} : x_cal M 10209 = some (0, mX9_advertise, 1) := x_calE rfl cl_10209
theorem pa_9174 : x_look 9174 x_slnT = none := rfl
theorem pb_9174 : x_look 9174 x_schT = none := rfl
theorem cc_9174 {M : x_MI} : x_cal M 9174 = some (0, mX9_remains, 2) := x_calE rfl cl_9174
theorem pa_9266 : x_look 9266 x_slnT = none := rfl
theorem pb_9266 : x_look 9266 x_schT = none := rfl
theorem cc_9266 {M : x_MI} : x_cal M 9266 = some (0, mX9_netsOf, 4) := x_calE rfl cl_9266
theorem pa_9258 : x_look 9258 x_slnT = none := rfl
theorem pb_9258 : x_look 9258 x_schT = none := rfl
theorem cc_9258 {M : x_MI} : x_cal M 9258 = some (0, mX9_ofLoad, 3) := x_calE rfl cl_9258
theorem pa_10212 : x_look 10212 x_slnT = none := rfl
theorem pb_10212 : x_look 10212 x_schT = none := rfl
theorem cc_10212 {M : x_MI} : x_cal M 10212 = some (0, mX9_volume, 2) := x_calE rfl cl_10212
theorem pa_9177 : x_look 9177 x_slnT = none := rfl
theorem pb_9177 : x_look 9177 x_schT = none := rfl
theorem cc_9177 {M : x_MI} : x_cal M 9177 = some (0, mX9_volumeAt, 2) := x_calE rfl cl_9177
theorem pa_9170 : x_look 9170 x_slnT = none := rfl
theorem pb_9170 : x_look 9170 x_schT = none := rfl
theorem cc_9170 {M : x_MI} : x_cal M 9170 = some (0, mX9_isSecond, 1) := x_calE rfl cl_9170
theorem pa_10216 : x_look 10216 x_slnT = none := rfl
theorem pb_10216 : x_look 10216 x_schT = none := rfl
theorem cc_10216 {M : x_MI} : x_cal M 10216 = some (0, mX9_offer, 4) := x_calE rfl cl_10216
theorem pa_9185 : x_look 9185 x_cpyT = none := rfl
theorem cc_9185 {M : x_MI} : x_cal M 9185 = some (1, mX9_isBidder, 1) := x_calE rfl cl_9185
theorem pa_9190 : x_look 9190 x_slnT = none := rfl
theorem pb_9190 : x_look 9190 x_schT = none := rfl
theorem cc_9190 {M : x_MI} : x_cal M 9190 = some (0, mX9_isBidding, 1) := x_calE rfl cl_9190
theorem pa_9193 : x_look 9193 x_slnT = none := rfl
theorem pb_9193 : x_look 9193 x_schT = none := rfl
theorem cc_9193 {M : x_MI} : x_cal M 9193 = some (0, mX9_isSealed, 2) := x_calE rfl cl_9193
theorem pa_9182 : x_look 9182 x_slnT = none := rfl
theorem pb_9182 : x_look 9182 x_schT = none := rfl
theorem cc_9182 {M : x_MI} : x_cal M 9182 = some (0, mX9_ofBid, 3) := x_calE rfl cl_9182
theorem pa_9196 : x_look 9196 x_slnT = none := rfl
theorem pb_9196 : x_look 9196 x_schT = none := rfl
theorem cc_9196 {M : x_MI} : x_cal M 9196 = some (0, mX9_setsBid, 4) := x_calE rfl cl_9196
theorem pa_10219 : x_look 10219 x_slnT = none := rfl
theorem pb_10219 : x_look 10219 x_schT = none := rfl
theorem cc_10219 {M : x_MI} : x_cal M 10219 = some (0, mX9_setDeposit, 3) := x_calE rfl cl_10219
theorem pa_10222 : x_look 10222 x_slnT = none := rfl
theorem pb_10222 : x_look 10222 x_schT = none := rfl
theorem cc_10222 {M : x_MI} : x_cal M 10222 = some (0, mX9_seal, 2) := x_calE rfl cl_10222
theorem pa_10226 : x_look 10226 x_slnT = none := rfl
theorem pb_10226 : x_look 10226 x_schT = none := rfl
theorem cc_10226 {M : x_MI} : x_cal M 10226 = some (0, mX9_withdraw, 2) := x_calE rfl cl_10226
theorem pa_10229 : x_look 10229 x_slnT = none := rfl
theorem pb_10229 : x_look 10229 x_schT = none := rfl
theorem cc_10229 {M : x_MI} : x_cal M 10229 = some (0, mX9_open, 1) := x_calE rfl cl_10229
theorem pa_9202 : x_look 9202 x_slnT = none := rfl
theorem pb_9202 : x_look 9202 x_schT = none := rfl
theorem cc_9202 {M : x_MI} : x_cal M 9202 = some (0, mX9_problemOf, 2) := x_calE rfl cl_9202
theorem pa_9207 : x_look 9207 x_slnT = none := rfl
theorem pb_9207 : x_look 9207 x_schT = none := rfl
theorem cc_9207 {M : x_MI} : x_cal M 9207 = some (0, mX9_valueOf, 4) := x_calE rfl cl_9207
theorem pa_10232 : x_look 10232 x_slnT = none := rfl
theorem pb_10232 : x_look 10232 x_schT = none := rfl
theorem cc_10232 {M : x_MI} : x_cal M 10232 = some (0, mX9_problem, 2) := x_calE rfl cl_10232
theorem pa_9218 : x_look 9218 x_slnT = none := rfl
theorem pb_9218 : x_look 9218 x_schT = none := rfl
theorem cc_9218 {M : x_MI} : x_cal M 9218 = some (0, mX9_bidRefusal, 2) := x_calE rfl cl_9218
theorem pa_9215 : x_look 9215 x_slnT = none := rfl
theorem pb_9215 : x_look 9215 x_schT = none := rfl
theorem cc_9215 {M : x_MI} : x_cal M 9215 = some (0, mX9_isOpened, 1) := x_calE rfl cl_9215
theorem pa_10235 : x_look 10235 x_slnT = none := rfl
theorem pb_10235 : x_look 10235 x_schT = none := rfl
theorem cc_10235 {M : x_MI} : x_cal M 10235 = some (0, mX9_value, 2) := x_calE rfl cl_10235
theorem pa_10238 : x_look 10238 x_slnT = none := rfl
theorem pb_10238 : x_look 10238 x_schT = none := rfl
theorem cc_10238 {M : x_MI} : x_cal M 10238 = some (0, mX9_rank, 2) := x_calE rfl cl_10238
theorem pa_9211 : x_look 9211 x_slnT = none := rfl
theorem pb_9211 : x_look 9211 x_schT = none := rfl
theorem cc_9211 {M : x_MI} : x_cal M 9211 = some (0, mX9_isBefore, 5) := x_calE rfl cl_9211
theorem pa_10241 : x_look 10241 x_slnT = none := rfl
theorem pb_10241 : x_look 10241 x_schT = none := rfl
theorem cc_10241 {M : x_MI} : x_cal M 10241 = some (0, mX9_turningPoint, 2) := x_calE rfl cl_10241
theorem pa_9221 : x_look 9221 x_slnT = none := rfl
theorem pb_9221 : x_look 9221 x_schT = none := rfl
theorem cc_9221 {M : x_MI} : x_cal M 9221 = some (0, mX9_winnerBy, 3) := x_calE rfl cl_9221
theorem pa_10244 : x_look 10244 x_slnT = none := rfl
theorem pb_10244 : x_look 10244 x_schT = none := rfl
theorem cc_10244 {M : x_MI} : x_cal M 10244 = some (0, mX9_leastWinningRate, 3) := x_calE rfl cl_10244
theorem pa_9231 : x_look 9231 x_slnT = none := rfl
theorem pb_9231 : x_look 9231 x_schT = none := rfl
theorem cc_9231 {M : x_MI} : x_cal M 9231 = some (0, mX9_couldBeValid, 3) := x_calE rfl cl_9231
theorem pa_9235 : x_look 9235 x_slnT = none := rfl
theorem pb_9235 : x_look 9235 x_schT = none := rfl
theorem cc_9235 {M : x_MI} : x_cal M 9235 = some (0, mX9_leastRate, 3) := x_calE rfl cl_9235
theorem pa_9224 : x_look 9224 x_slnT = none := rfl
theorem pb_9224 : x_look 9224 x_schT = none := rfl
theorem cc_9224 {M : x_MI} : x_cal M 9224 = some (0, mX9_firstBut, 2) := x_calE rfl cl_9224
theorem pa_10247 : x_look 10247 x_slnT = none := rfl
theorem pb_10247 : x_look 10247 x_schT = none := rfl
theorem cc_10247 {M : x_MI} : x_cal M 10247 = some (0, mX9_award, 1) := x_calE rfl cl_10247
theorem pa_10251 : x_look 10251 x_slnT = none := rfl
theorem pb_10251 : x_look 10251 x_schT = none := rfl
theorem cc_10251 {M : x_MI} : x_cal M 10251 = some (0, mX9_setIndex, 4) := x_calE rfl cl_10251
theorem pa_10254 : x_look 10254 x_slnT = none := rfl
theorem pb_10254 : x_look 10254 x_schT = none := rfl
theorem cc_10254 {M : x_MI} : x_cal M 10254 = some (0, mX9_rate, 3) := x_calE rfl cl_10254
theorem pa_9246 : x_look 9246 x_slnT = none := rfl
theorem pb_9246 : x_look 9246 x_schT = none := rfl
theorem cc_9246 {M : x_MI} : x_cal M 9246 = some (0, mX9_rateOf, 3) := x_calE rfl cl_9246
theorem pa_9243 : x_look 9243 x_slnT = none := rfl
theorem pb_9243 : x_look 9243 x_schT = none := rfl
theorem cc_9243 {M : x_MI} : x_cal M 9243 = some (0, mX9_rateBy, 3) := x_calE rfl cl_9243
theorem pa_10257 : x_look 10257 x_slnT = none := rfl
theorem pb_10257 : x_look 10257 x_schT = none := rfl
theorem cc_10257 {M : x_MI} : x_cal M 10257 = some (0, mX9_indexFor, 3) := x_calE rfl cl_10257
theorem pa_10260 : x_look 10260 x_slnT = none := rfl
theorem pb_10260 : x_look 10260 x_schT = none := rfl
theorem cc_10260 {M : x_MI} : x_cal M 10260 = some (0, mX9_scale, 4) := x_calE rfl cl_10260
theorem pa_9249 : x_look 9249 x_cpyT = none := rfl
theorem cc_9249 {M : x_MI} : x_cal M 9249 = some (1, mX9_isScaled, 2) := x_calE rfl cl_9249
theorem pa_9252 : x_look 9252 x_cpyT = none := rfl
theorem cc_9252 {M : x_MI} : x_cal M 9252 = some (1, mX9_netOf, 2) := x_calE rfl cl_9252
theorem pa_10263 : x_look 10263 x_slnT = none := rfl
theorem pb_10263 : x_look 10263 x_schT = none := rfl
theorem cc_10263 {M : x_MI} : x_cal M 10263 = some (0, mX9_check, 4) := x_calE rfl cl_10263
theorem pa_9255 : x_look 9255 x_slnT = none := rfl
theorem pb_9255 : x_look 9255 x_schT = none := rfl
theorem cc_9255 {M : x_MI} : x_cal M 9255 = some (0, mX9_isLoad, 2) := x_calE rfl cl_9255
theorem pa_10279 : x_look 10279 x_slnT = none := rfl
theorem pb_10279 : x_look 10279 x_schT = none := rfl
theorem cc_10279 {M : x_MI} : x_cal M 10279 = some (0, mX9_net, 2) := x_calE rfl cl_10279
theorem pa_10266 : x_look 10266 x_slnT = none := rfl
theorem pb_10266 : x_look 10266 x_schT = none := rfl
theorem cc_10266 {M : x_MI} : x_cal M 10266 = some (0, mX9_voidLoad, 2) := x_calE rfl cl_10266
theorem pa_10269 : x_look 10269 x_slnT = none := rfl
theorem pb_10269 : x_look 10269 x_schT = none := rfl
theorem cc_10269 {M : x_MI} : x_cal M 10269 = some (0, mX9_worstCheck, 1) := x_calE rfl cl_10269
theorem pa_9261 : x_look 9261 x_slnT = none := rfl
theorem pb_9261 : x_look 9261 x_schT = none := rfl
theorem cc_9261 {M : x_MI} : x_cal M 9261 = some (0, mX9_apart, 2) := x_calE rfl cl_9261
theorem pa_10272 : x_look 10272 x_slnT = none := rfl
theorem pb_10272 : x_look 10272 x_schT = none := rfl
theorem cc_10272 {M : x_MI} : x_cal M 10272 = some (0, mX9_scaled, 4) := x_calE rfl cl_10272
theorem pa_10276 : x_look 10276 x_slnT = none := rfl
theorem pb_10276 : x_look 10276 x_schT = none := rfl
theorem cc_10276 {M : x_MI} : x_cal M 10276 = some (0, mX9_cutShare, 2) := x_calE rfl cl_10276
theorem pa_10284 : x_look 10284 x_slnT = none := rfl
theorem pb_10284 : x_look 10284 x_schT = none := rfl
theorem cc_10284 {M : x_MI} : x_cal M 10284 = some (0, mX9_factor, 2) := x_calE rfl cl_10284
theorem pa_9275 : x_look 9275 x_slnT = none := rfl
theorem pb_9275 : x_look 9275 x_schT = none := rfl
theorem cc_9275 {M : x_MI} : x_cal M 9275 = some (0, mX9_laysFactor, 1) := x_calE rfl cl_9275
theorem pa_10288 : x_look 10288 x_slnT = none := rfl
theorem pb_10288 : x_look 10288 x_schT = none := rfl
theorem cc_10288 {M : x_MI} : x_cal M 10288 = some (0, mX9_month, 1) := x_calE rfl cl_10288
theorem pa_10291 : x_look 10291 x_slnT = none := rfl
theorem pb_10291 : x_look 10291 x_schT = none := rfl
theorem cc_10291 {M : x_MI} : x_cal M 10291 = some (0, mX9_endMonth, 1) := x_calE rfl cl_10291
theorem pa_9283 : x_look 9283 x_slnT = none := rfl
theorem pb_9283 : x_look 9283 x_schT = none := rfl
theorem cc_9283 {M : x_MI} : x_cal M 9283 = some (0, mX9_ends, 1) := x_calE rfl cl_9283
theorem pa_9280 : x_look 9280 x_slnT = none := rfl
theorem pb_9280 : x_look 9280 x_schT = none := rfl
theorem cc_9280 {M : x_MI} : x_cal M 9280 = some (0, mX9_chargeOf, 2) := x_calE rfl cl_9280
theorem pa_10294 : x_look 10294 x_slnT = none := rfl
theorem pb_10294 : x_look 10294 x_schT = none := rfl
theorem cc_10294 {M : x_MI} : x_cal M 10294 = some (0, mX9_charge, 2) := x_calE rfl cl_10294
theorem pa_10297 : x_look 10297 x_slnT = none := rfl
theorem pb_10297 : x_look 10297 x_schT = none := rfl
theorem cc_10297 {M : x_MI} : x_cal M 10297 = some (0, mX9_pay, 2) := x_calE rfl cl_10297
theorem pa_10304 : x_look 10304 x_slnT = none := rfl
theorem pb_10304 : x_look 10304 x_schT = none := rfl
theorem cc_10304 {M : x_MI} : x_cal M 10304 = some (0, mX9_projectedDebt, 2) := x_calE rfl cl_10304
theorem pa_10301 : x_look 10301 x_slnT = none := rfl
theorem pb_10301 : x_look 10301 x_schT = none := rfl
theorem cc_10301 {M : x_MI} : x_cal M 10301 = some (0, mX9_debt, 1) := x_calE rfl cl_10301
theorem pa_10308 : x_look 10308 x_slnT = none := rfl
theorem pb_10308 : x_look 10308 x_schT = none := rfl
theorem cc_10308 {M : x_MI} : x_cal M 10308 = some (0, mX9_adjustment, 1) := x_calE rfl cl_10308
theorem pa_9288 : x_look 9288 x_slnT = none := rfl
theorem pb_9288 : x_look 9288 x_schT = none := rfl
theorem cc_9288 {M : x_MI} : x_cal M 9288 = some (0, mX9_adjusts, 1) := x_calE rfl cl_9288
theorem pa_10311 : x_look 10311 x_slnT = none := rfl
theorem pb_10311 : x_look 10311 x_schT = none := rfl
theorem cc_10311 {M : x_MI} : x_cal M 10311 = some (0, mX9_close, 1) := x_calE rfl cl_10311
theorem pa_10314 : x_look 10314 x_slnT = none := rfl
theorem pb_10314 : x_look 10314 x_schT = none := rfl
theorem cc_10314 {M : x_MI} : x_cal M 10314 = some (0, mX9_remaining, 2) := x_calE rfl cl_10314
theorem pa_10317 : x_look 10317 x_slnT = none := rfl
theorem pb_10317 : x_look 10317 x_schT = none := rfl
theorem cc_10317 {M : x_MI} : x_cal M 10317 = some (0, mX9_declareDefault, 1) := x_calE rfl cl_10317
theorem pa_9292 : x_look 9292 x_slnT = none := rfl
theorem pb_9292 : x_look 9292 x_schT = none := rfl
theorem cc_9292 {M : x_MI} : x_cal M 9292 = some (0, mX9_remainsInAll, 1) := x_calE rfl cl_9292
theorem pa_10320 : x_look 10320 x_slnT = none := rfl
theorem pb_10320 : x_look 10320 x_schT = none := rfl
theorem cc_10320 {M : x_MI} : x_cal M 10320 = some (0, mX9_damages, 1) := x_calE rfl cl_10320
theorem pa_7024 : x_look 7024 x_cpyT = none := rfl
theorem cc_7024 {M : x_MI} : x_cal M 7024 = some (3, mX8_copy, 2) := x_calE rfl cl_7024
theorem pa_2025 : x_look 2025 x_cpyT = none := rfl
theorem cc_2025 {M : x_MI} : x_cal M 2025 = some (3, mX8_copy, 2) := x_calE rfl cl_2025
theorem pa_37 : x_look 37 x_cpyT = none := rfl
theorem cc_37 {M : x_MI} : x_cal M 37 = some (3, mX8_copy, 2) := x_calE rfl cl_37
theorem pa_1048 : x_look 1048 x_cpyT = none := rfl
theorem cc_1048 {M : x_MI} : x_cal M 1048 = some (3, mX8_copy, 2) := x_calE rfl cl_1048
theorem pa_4034 : x_look 4034 x_cpyT = none := rfl
theorem cc_4034 {M : x_MI} : x_cal M 4034 = some (3, mX8_copy, 2) := x_calE rfl cl_4034

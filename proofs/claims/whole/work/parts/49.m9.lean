/-! ===== the model: more queries (laid by wip/whole/src/m9.py) ===== -/
section
variable {X : x_X} {I : Nat → Nat → Int32} {L : Nat → Nat → Int64} {R : Nat → Nat → Option Nat}
theorem c_X9_isScaled {g d : Int32} : x_Cv X mX9_isScaled [.int g, .int d] (I, L, R) 233 (.inl (some (.int (x_b ((1 ≤ g ∧ g ≤ 10000) ∧ (0 ≤ d ∧ d ≤ 100))))), (I, L, R), 233) := by
  show x_Ev X mX9_isScaled 0 [some (.int g), some (.int d)] [] ((I, L, R), 233, 0, 0) _
  refine f_iload_n (M := mX9_isScaled) 1 dX9_isScaled_0 rfl rfl ?_
  refine f_i2l (M := mX9_isScaled) 2 dX9_isScaled_1 rfl ?_
  refine f_lconst (M := mX9_isScaled) 3 dX9_isScaled_2 kl_1 rfl ?_
  refine f_ldc2 (M := mX9_isScaled) 6 dX9_isScaled_3 (x_kk rfl) csl_9241 rfl ?_
  refine e_cS (M := mX9_isScaled) [_] 0 0 dX9_isScaled_6 pa_9074 cc_9074 rfl rfl rfl rfl rfl (x_kk rfl) (x_kk rfl) rfl (c_X9_isInI (lo := 1) (hi := 10000)) rfl ?_
  refine e_if_eq (M := mX9_isScaled) (t := 28) dX9_isScaled_9 rfl (fun h1 => ?_) (fun h1 => ?_)
  · refine f_iconst (M := mX9_isScaled) 29 dX9_isScaled_28 ki_0 rfl ?_
    refine e_rb (M := mX9_isScaled) dX9_isScaled_29 rfl (x_kk rfl) (x_kk rfl) (by decide) ?_
    exact r_b0 (fun z => x_bF h1 z.1)
  · refine f_iload_n (M := mX9_isScaled) 13 dX9_isScaled_12 rfl rfl ?_
    refine f_i2l (M := mX9_isScaled) 14 dX9_isScaled_13 rfl ?_
    refine f_lconst (M := mX9_isScaled) 15 dX9_isScaled_14 kl_0 rfl ?_
    refine f_ldc2 (M := mX9_isScaled) 18 dX9_isScaled_15 (x_kk rfl) csl_9205 rfl ?_
    refine e_cS (M := mX9_isScaled) [_] 0 0 dX9_isScaled_18 pa_9074 cc_9074 rfl rfl rfl rfl rfl (x_kk rfl) (x_kk rfl) rfl (c_X9_isInI (lo := 0) (hi := 100)) rfl ?_
    refine e_if_eq (M := mX9_isScaled) (t := 28) dX9_isScaled_21 rfl (fun h2 => ?_) (fun h2 => ?_)
    · refine f_iconst (M := mX9_isScaled) 29 dX9_isScaled_28 ki_0 rfl ?_
      refine e_rb (M := mX9_isScaled) dX9_isScaled_29 rfl (x_kk rfl) (x_kk rfl) (by decide) ?_
      exact r_b0 (fun z => x_bF h2 z.2)
    · refine f_iconst (M := mX9_isScaled) 25 dX9_isScaled_24 ki_1 rfl ?_
      refine f_goto (M := mX9_isScaled) 29 dX9_isScaled_25 rfl ?_
      refine e_rb (M := mX9_isScaled) dX9_isScaled_29 rfl (x_kk rfl) (x_kk rfl) (by decide) ?_
      exact r_b1 ⟨x_bT h1, x_bT h2⟩
theorem c_X9_isVolume {v e : Int32} : x_Cv X mX9_isVolume [.int v, .int e] (I, L, R) 233 (.inl (some (.int (x_b (0 ≤ v ∧ v ≤ (if e = 0 then 0 else 500))))), (I, L, R), 233) := by
  show x_Ev X mX9_isVolume 0 [some (.int v), some (.int e)] [] ((I, L, R), 233, 0, 0) _
  refine f_iload_n (M := mX9_isVolume) 1 dX9_isVolume_0 rfl rfl ?_
  refine f_i2l (M := mX9_isVolume) 2 dX9_isVolume_1 rfl ?_
  refine f_lconst (M := mX9_isVolume) 3 dX9_isVolume_2 kl_0 rfl ?_
  refine f_iload_n (M := mX9_isVolume) 4 dX9_isVolume_3 rfl rfl ?_
  refine e_if_eq (M := mX9_isVolume) (t := 13) dX9_isVolume_4 rfl (fun h1 => ?_) (fun h1 => ?_)
  · refine f_lconst (M := mX9_isVolume) 14 dX9_isVolume_13 kl_0 rfl ?_
    refine e_cS (M := mX9_isVolume) [_] 0 0 dX9_isVolume_14 pa_9074 cc_9074 rfl rfl rfl rfl rfl (x_kk rfl) (x_kk rfl) rfl (c_X9_isInI (lo := 0) (hi := 0)) rfl ?_
    refine e_rb (M := mX9_isVolume) dX9_isVolume_17 rfl (x_kk rfl) (x_kk rfl) (by exact x_bN) ?_
    rw [if_pos h1]
  · refine f_ldc2 (M := mX9_isVolume) 10 dX9_isVolume_7 (x_kk rfl) csl_9131 rfl ?_
    refine f_goto (M := mX9_isVolume) 14 dX9_isVolume_10 rfl ?_
    refine e_cS (M := mX9_isVolume) [_] 0 0 dX9_isVolume_14 pa_9074 cc_9074 rfl rfl rfl rfl rfl (x_kk rfl) (x_kk rfl) rfl (c_X9_isInI (lo := 0) (hi := 500)) rfl ?_
    refine e_rb (M := mX9_isVolume) dX9_isVolume_17 rfl (x_kk rfl) (x_kk rfl) (by exact x_bN) ?_
    rw [if_neg h1]
theorem c_X9_apart (hR : x_wf R) {q : Nat} (hq : q < 60) : x_Cv X mX9_apart [.ref 225, .int (Int32.ofNat q)] (I, L, R) 233 (.inl (some (.int (if 0 ≤ I 226 (366 + 4 * q + 3) - I 226 (366 + 4 * q + 2) then I 226 (366 + 4 * q + 3) - I 226 (366 + 4 * q + 2) else -(I 226 (366 + 4 * q + 3) - I 226 (366 + 4 * q + 2))))), (I, L, R), 233) := by
  show x_Ev X mX9_apart 0 [some (.ref 225), some (.int (Int32.ofNat q)), none] [] ((I, L, R), 233, 0, 0) _
  refine f_aload_n (M := mX9_apart) 1 dX9_apart_0 rfl rfl ?_
  refine f_iload_n (M := mX9_apart) 2 dX9_apart_1 rfl rfl ?_
  refine f_iconst (M := mX9_apart) 3 dX9_apart_2 ki_3 rfl ?_
  refine e_cV (M := mX9_apart) [_] 0 0 dX9_apart_3 pa_9258 pb_9258 cc_9258 rfl rfl rfl rfl rfl (x_kk rfl) (x_kk rfl) rfl (c_X9_ofLoad (j := 3) hR hq (by omega)) rfl ?_
  refine f_aload_n (M := mX9_apart) 7 dX9_apart_6 rfl rfl ?_
  refine f_iload_n (M := mX9_apart) 8 dX9_apart_7 rfl rfl ?_
  refine f_iconst (M := mX9_apart) 9 dX9_apart_8 ki_2 rfl ?_
  refine e_cV (M := mX9_apart) [_, _] 0 0 dX9_apart_9 pa_9258 pb_9258 cc_9258 rfl rfl rfl rfl rfl (x_kk rfl) (x_kk rfl) rfl (c_X9_ofLoad (j := 2) hR hq (by omega)) rfl ?_
  refine f_isub (M := mX9_apart) 13 dX9_apart_12 rfl ?_
  refine f_istore_n (M := mX9_apart) (ls' := [_, _, _]) 14 dX9_apart_13 rfl rfl rfl ?_
  refine f_iload_n (M := mX9_apart) 15 dX9_apart_14 rfl rfl ?_
  refine e_if_ge (M := mX9_apart) (t := 23) dX9_apart_15 rfl (fun h1 => ?_) (fun h1 => ?_)
  · refine f_iload_n (M := mX9_apart) 24 dX9_apart_23 rfl rfl ?_
    refine e_ri (M := mX9_apart) dX9_apart_24 rfl (x_kk rfl) (x_kk rfl) ?_
    exact r_i (if_pos h1).symm
  · refine f_iload_n (M := mX9_apart) 19 dX9_apart_18 rfl rfl ?_
    refine f_ineg (M := mX9_apart) 20 dX9_apart_19 rfl ?_
    refine f_goto (M := mX9_apart) 24 dX9_apart_20 rfl ?_
    refine e_ri (M := mX9_apart) dX9_apart_24 rfl (x_kk rfl) (x_kk rfl) ?_
    exact r_i (if_neg h1).symm
def sp_refu (a : Nat → Int32) (σ p : Int32) : Int32 := if ¬ (σ = -1 ∨ (0 ≤ σ ∧ σ ≤ a 8 - 1)) then 1 else if ¬ (1 ≤ p ∧ p ≤ 20) then 2 else if ¬ 2 ≤ a 9 then 3 else 0
theorem c_X9_refusal (hR : x_wf R) {σ p : Int32} : x_Cv X mX9_refusal [.ref 225, .int σ, .int p] (I, L, R) 233 (.inl (some (.int (sp_refu (I 226) σ p))), (I, L, R), 233) := by
  show x_Ev X mX9_refusal 0 [some (.ref 225), some (.int σ), some (.int p)] [] ((I, L, R), 233, 0, 0) _
  refine f_aload_n (M := mX9_refusal) 1 dX9_refusal_0 rfl rfl ?_
  refine f_iload_n (M := mX9_refusal) 2 dX9_refusal_1 rfl rfl ?_
  refine e_cV (M := mX9_refusal) [_] 0 0 dX9_refusal_2 pa_9151 pb_9151 cc_9151 rfl rfl rfl rfl rfl (x_kk rfl) (x_kk rfl) rfl (c_X9_isAny hR) rfl ?_
  refine e_if_ne (M := mX9_refusal) (t := 12) dX9_refusal_5 rfl (fun h1 => ?_) (fun h1 => ?_)
  · refine f_iload_n (M := mX9_refusal) 13 dX9_refusal_12 rfl rfl ?_
    refine f_i2l (M := mX9_refusal) 14 dX9_refusal_13 rfl ?_
    refine f_lconst (M := mX9_refusal) 15 dX9_refusal_14 kl_1 rfl ?_
    refine f_ldc2 (M := mX9_refusal) 18 dX9_refusal_15 (x_kk rfl) csl_9161 rfl ?_
    refine e_cS (M := mX9_refusal) [_] 0 0 dX9_refusal_18 pa_9074 cc_9074 rfl rfl rfl rfl rfl (x_kk rfl) (x_kk rfl) rfl (c_X9_isInI (lo := 1) (hi := 20)) rfl ?_
    refine e_if_ne (M := mX9_refusal) (t := 28) dX9_refusal_21 rfl (fun h2 => ?_) (fun h2 => ?_)
    · refine f_aload_n (M := mX9_refusal) 29 dX9_refusal_28 rfl rfl ?_
      refine e_getR (M := mX9_refusal) dX9_refusal_29 fl_9007 (x_kk rfl) (x_kk rfl) rfl (wf_9_0 hR) ?_
      refine f_bipush (M := mX9_refusal) 34 dX9_refusal_32 kb_9 rfl ?_
      refine e_ild (M := mX9_refusal) (w := 606) (j := 9) dX9_refusal_34 (x_kk rfl) rfl kn_9 (by omega) (by omega) ?_
      refine f_iconst (M := mX9_refusal) 36 dX9_refusal_35 ki_2 rfl ?_
      refine e_icmp_ge (M := mX9_refusal) (t := 43) dX9_refusal_36 rfl (fun h3 => ?_) (fun h3 => ?_)
      · refine f_iconst (M := mX9_refusal) 44 dX9_refusal_43 ki_0 rfl ?_
        refine e_ri (M := mX9_refusal) dX9_refusal_44 rfl (x_kk rfl) (x_kk rfl) ?_
        exact r_i (by unfold sp_refu; rw [if_neg (fun z => z (x_bT h1)), if_neg (fun z => z (x_bT h2)), if_neg (fun z => z h3)])
      · refine f_iconst (M := mX9_refusal) 40 dX9_refusal_39 ki_3 rfl ?_
        refine f_goto (M := mX9_refusal) 44 dX9_refusal_40 rfl ?_
        refine e_ri (M := mX9_refusal) dX9_refusal_44 rfl (x_kk rfl) (x_kk rfl) ?_
        exact r_i (by unfold sp_refu; rw [if_neg (fun z => z (x_bT h1)), if_neg (fun z => z (x_bT h2)), if_pos h3])
    · refine f_iconst (M := mX9_refusal) 25 dX9_refusal_24 ki_2 rfl ?_
      refine f_goto (M := mX9_refusal) 44 dX9_refusal_25 rfl ?_
      refine e_ri (M := mX9_refusal) dX9_refusal_44 rfl (x_kk rfl) (x_kk rfl) ?_
      exact r_i (by unfold sp_refu; rw [if_neg (fun z => z (x_bT h1)), if_pos (x_bG h2)])
  · refine f_iconst (M := mX9_refusal) 9 dX9_refusal_8 ki_1 rfl ?_
    refine f_goto (M := mX9_refusal) 44 dX9_refusal_9 rfl ?_
    refine e_ri (M := mX9_refusal) dX9_refusal_44 rfl (x_kk rfl) (x_kk rfl) ?_
    exact r_i (by unfold sp_refu; rw [if_pos (x_bG h1)])
end

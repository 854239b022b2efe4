/-! ===== the class: small methods (laid by wip/whole/src/c1.py) ===== -/
section
variable {X : x_X} {I : Nat → Nat → Int32} {L : Nat → Nat → Int64} {R : Nat → Nat → Option Nat}
theorem e_newT {M : x_MI} {pc n c k i E a b : Nat} {ls : x_Ls} {st : List Value} {μ : x_Mem} (hd : decode (x_mb M) pc = .ok (.new i, 3)) (h1 : i < 1000) (h2 : x_look (x_key M i) x_newT = none) (h3 : x_look (x_key M i) x_thrT = some E) (h4 : decode (x_mb M) (pc + 3) = .ok (.dup, 1)) (h5 : decode (x_mb M) (pc + 4) = .ok (.ldc_w a, 3)) (h6 : decode (x_mb M) (pc + 7) = .ok (.invokespecial b, 3)) (h7 : decode (x_mb M) (pc + 10) = .ok (.athrow, 1)) (h8 : (Nat.beq a (x_ek E).2.1 && Nat.beq b (x_ek E).2.2) = true) (hst : x_cats st ≤ 8) (hn : n = x_N) (hc : c + 1 ≤ x_mc M) (hk : k + 6 ≤ x_ms M) (hm : x_mh M = []) : x_Ev X M pc ls st (μ, n, c, k) (.inr E, μ, n) := by
  refine e_thr (E := E) hd rfl ?_ hm ?_
  · have ht : x_thr M pc E = true := by
      unfold x_thr
      rw [h4, h5, h6, h7]
      exact h8
    unfold x_step
    dsimp only
    rw [if_pos h1, h2, h3]
    dsimp only
    rw [if_pos ⟨ht, hn, hst, hc, hk⟩]
  · exact x_finE hc hk
theorem nw_8347 : x_look 8347 x_newT = none := rfl
theorem nt_8347 : x_look 8347 x_thrT = some 0 := rfl
theorem c_X8_requireState {v : Int32} (h : ¬ v = 0) : x_Cv X mX8_requireState [.int v] (I, L, R) 233 (.inl none, (I, L, R), 233) := by
  show x_Ev X mX8_requireState 0 [some (.int v)] [] ((I, L, R), 233, 0, 0) _
  refine f_iload_n (M := mX8_requireState) 1 dX8_requireState_0 rfl rfl ?_
  refine e_if_neT (M := mX8_requireState) 15 dX8_requireState_1 rfl h ?_
  refine e_rv (M := mX8_requireState) dX8_requireState_15 rfl (x_kk rfl) (x_kk rfl) ?_
  rfl
theorem c_X8_requireState_x {v : Int32} (h : v = 0) : x_Cv X mX8_requireState [.int v] (I, L, R) 233 (.inr 0, (I, L, R), 233) := by
  show x_Ev X mX8_requireState 0 [some (.int v)] [] ((I, L, R), 233, 0, 0) _
  refine f_iload_n (M := mX8_requireState) 1 dX8_requireState_0 rfl rfl ?_
  refine e_if_neF (M := mX8_requireState) 15 dX8_requireState_1 rfl (fun z => z h) ?_
  exact e_newT (M := mX8_requireState) dX8_requireState_4 (x_kk rfl) nw_8347 nt_8347 dX8_requireState_7 dX8_requireState_8 dX8_requireState_11 dX8_requireState_14 rfl (x_kk rfl) rfl (x_kk rfl) (x_kk rfl) rfl
theorem nw_8342 : x_look 8342 x_newT = none := rfl
theorem nt_8342 : x_look 8342 x_thrT = some 1 := rfl
theorem c_X8_requireArgument {v : Int32} (h : ¬ v = 0) : x_Cv X mX8_requireArgument [.int v] (I, L, R) 233 (.inl none, (I, L, R), 233) := by
  show x_Ev X mX8_requireArgument 0 [some (.int v)] [] ((I, L, R), 233, 0, 0) _
  refine f_iload_n (M := mX8_requireArgument) 1 dX8_requireArgument_0 rfl rfl ?_
  refine e_if_neT (M := mX8_requireArgument) 15 dX8_requireArgument_1 rfl h ?_
  refine e_rv (M := mX8_requireArgument) dX8_requireArgument_15 rfl (x_kk rfl) (x_kk rfl) ?_
  rfl
theorem c_X8_requireArgument_x {v : Int32} (h : v = 0) : x_Cv X mX8_requireArgument [.int v] (I, L, R) 233 (.inr 1, (I, L, R), 233) := by
  show x_Ev X mX8_requireArgument 0 [some (.int v)] [] ((I, L, R), 233, 0, 0) _
  refine f_iload_n (M := mX8_requireArgument) 1 dX8_requireArgument_0 rfl rfl ?_
  refine e_if_neF (M := mX8_requireArgument) 15 dX8_requireArgument_1 rfl (fun z => z h) ?_
  exact e_newT (M := mX8_requireArgument) dX8_requireArgument_4 (x_kk rfl) nw_8342 nt_8342 dX8_requireArgument_7 dX8_requireArgument_8 dX8_requireArgument_11 dX8_requireArgument_14 rfl (x_kk rfl) rfl (x_kk rfl) (x_kk rfl) rfl
theorem nw_8335 : x_look 8335 x_newT = none := rfl
theorem nt_8335 : x_look 8335 x_thrT = some 2 := rfl
theorem c_X8_requireExisting {v : Int32} (h : ¬ v = 0) : x_Cv X mX8_requireExisting [.int v] (I, L, R) 233 (.inl none, (I, L, R), 233) := by
  show x_Ev X mX8_requireExisting 0 [some (.int v)] [] ((I, L, R), 233, 0, 0) _
  refine f_iload_n (M := mX8_requireExisting) 1 dX8_requireExisting_0 rfl rfl ?_
  refine e_if_neT (M := mX8_requireExisting) 15 dX8_requireExisting_1 rfl h ?_
  refine e_rv (M := mX8_requireExisting) dX8_requireExisting_15 rfl (x_kk rfl) (x_kk rfl) ?_
  rfl
theorem c_X8_requireExisting_x {v : Int32} (h : v = 0) : x_Cv X mX8_requireExisting [.int v] (I, L, R) 233 (.inr 2, (I, L, R), 233) := by
  show x_Ev X mX8_requireExisting 0 [some (.int v)] [] ((I, L, R), 233, 0, 0) _
  refine f_iload_n (M := mX8_requireExisting) 1 dX8_requireExisting_0 rfl rfl ?_
  refine e_if_neF (M := mX8_requireExisting) 15 dX8_requireExisting_1 rfl (fun z => z h) ?_
  exact e_newT (M := mX8_requireExisting) dX8_requireExisting_4 (x_kk rfl) nw_8335 nt_8335 dX8_requireExisting_7 dX8_requireExisting_8 dX8_requireExisting_11 dX8_requireExisting_14 rfl (x_kk rfl) rfl (x_kk rfl) (x_kk rfl) rfl
theorem nw_8352 : x_look 8352 x_newT = none := rfl
theorem nt_8352 : x_look 8352 x_thrT = some 3 := rfl
theorem c_X8_requireFound {v : Int32} (h : ¬ v = 0) : x_Cv X mX8_requireFound [.int v] (I, L, R) 233 (.inl none, (I, L, R), 233) := by
  show x_Ev X mX8_requireFound 0 [some (.int v)] [] ((I, L, R), 233, 0, 0) _
  refine f_iload_n (M := mX8_requireFound) 1 dX8_requireFound_0 rfl rfl ?_
  refine e_if_neT (M := mX8_requireFound) 15 dX8_requireFound_1 rfl h ?_
  refine e_rv (M := mX8_requireFound) dX8_requireFound_15 rfl (x_kk rfl) (x_kk rfl) ?_
  rfl
theorem c_X8_requireFound_x {v : Int32} (h : v = 0) : x_Cv X mX8_requireFound [.int v] (I, L, R) 233 (.inr 3, (I, L, R), 233) := by
  show x_Ev X mX8_requireFound 0 [some (.int v)] [] ((I, L, R), 233, 0, 0) _
  refine f_iload_n (M := mX8_requireFound) 1 dX8_requireFound_0 rfl rfl ?_
  refine e_if_neF (M := mX8_requireFound) 15 dX8_requireFound_1 rfl (fun z => z h) ?_
  exact e_newT (M := mX8_requireFound) dX8_requireFound_4 (x_kk rfl) nw_8352 nt_8352 dX8_requireFound_7 dX8_requireFound_8 dX8_requireFound_11 dX8_requireFound_14 rfl (x_kk rfl) rfl (x_kk rfl) (x_kk rfl) rfl
theorem c_X8_isIn {v lo hi : Int32} : x_Cv X mX8_isIn [.int v, .int lo, .int hi] (I, L, R) 233 (.inl (some (.int (x_b (lo ≤ v ∧ v ≤ hi)))), (I, L, R), 233) := by
  show x_Ev X mX8_isIn 0 [some (.int v), some (.int lo), some (.int hi)] [] ((I, L, R), 233, 0, 0) _
  refine f_iload_n (M := mX8_isIn) 1 dX8_isIn_0 rfl rfl ?_
  refine f_iload_n (M := mX8_isIn) 2 dX8_isIn_1 rfl rfl ?_
  refine e_icmp_lt (M := mX8_isIn) (t := 14) dX8_isIn_2 rfl (fun h1 => ?_) (fun h1 => ?_)
  · refine f_iconst (M := mX8_isIn) 15 dX8_isIn_14 ki_0 rfl ?_
    refine e_rb (M := mX8_isIn) dX8_isIn_15 rfl (x_kk rfl) (x_kk rfl) (by decide) ?_
    exact r_b0 (fun z => absurd z.1 (i_nle.mpr h1))
  · refine f_iload_n (M := mX8_isIn) 6 dX8_isIn_5 rfl rfl ?_
    refine f_iload_n (M := mX8_isIn) 7 dX8_isIn_6 rfl rfl ?_
    refine e_icmp_gt (M := mX8_isIn) (t := 14) dX8_isIn_7 rfl (fun h2 => ?_) (fun h2 => ?_)
    · refine f_iconst (M := mX8_isIn) 15 dX8_isIn_14 ki_0 rfl ?_
      refine e_rb (M := mX8_isIn) dX8_isIn_15 rfl (x_kk rfl) (x_kk rfl) (by decide) ?_
      exact r_b0 (fun z => absurd z.2 (i_nle.mpr h2))
    · refine f_iconst (M := mX8_isIn) 11 dX8_isIn_10 ki_1 rfl ?_
      refine f_goto (M := mX8_isIn) 15 dX8_isIn_11 rfl ?_
      refine e_rb (M := mX8_isIn) dX8_isIn_15 rfl (x_kk rfl) (x_kk rfl) (by decide) ?_
      exact r_b1 ⟨i_nlt.mp h1, i_nlt.mp h2⟩
theorem c_X8_isSpecies (hR : x_wf R) {β : Nat} (hβ : x_sl β) (hS : R 0 2 = some β) {v : Int32} : x_Cv X mX8_isSpecies [.ref 0, .int v] (I, L, R) 233 (.inl (some (.int (x_b (0 ≤ v ∧ v ≤ I (β + 1) 0 - 1)))), (I, L, R), 233) := by
  show x_Ev X mX8_isSpecies 0 [some (.ref 0), some (.int v)] [] ((I, L, R), 233, 0, 0) _
  refine f_iload_n (M := mX8_isSpecies) 1 dX8_isSpecies_0 rfl rfl ?_
  refine f_iconst (M := mX8_isSpecies) 2 dX8_isSpecies_1 ki_0 rfl ?_
  refine f_aload_n (M := mX8_isSpecies) 3 dX8_isSpecies_2 rfl rfl ?_
  refine e_getR (M := mX8_isSpecies) dX8_isSpecies_3 fl_8026 (x_kk rfl) (x_kk rfl) rfl hS ?_
  refine e_getR (M := mX8_isSpecies) dX8_isSpecies_6 fl_8083 (x_kk rfl) (sl_lt hβ 0 rfl) (sl_s hβ 0 rfl rfl) (wf_6_1 hR hβ) ?_
  refine e_getI (M := mX8_isSpecies) dX8_isSpecies_9 fl_8139 (x_kk rfl) (sl_lt hβ 1 rfl) (sl_s hβ 1 rfl rfl) ?_
  refine f_iconst (M := mX8_isSpecies) 13 dX8_isSpecies_12 ki_1 rfl ?_
  refine f_isub (M := mX8_isSpecies) 14 dX8_isSpecies_13 rfl ?_
  refine e_cS (M := mX8_isSpecies) [_] 0 0 dX8_isSpecies_14 pa_8049 cc_8049 rfl rfl rfl rfl rfl (x_kk rfl) (x_kk rfl) rfl (c_X8_isIn) rfl ?_
  refine e_rb (M := mX8_isSpecies) dX8_isSpecies_17 rfl (x_kk rfl) (x_kk rfl) (by exact x_bN) ?_
  rfl
theorem c_X8_isSpeciesOrNone (hR : x_wf R) {β : Nat} (hβ : x_sl β) (hS : R 0 2 = some β) {v : Int32} : x_Cv X mX8_isSpeciesOrNone [.ref 0, .int v] (I, L, R) 233 (.inl (some (.int (x_b (v = -1 ∨ (0 ≤ v ∧ v ≤ I (β + 1) 0 - 1))))), (I, L, R), 233) := by
  show x_Ev X mX8_isSpeciesOrNone 0 [some (.ref 0), some (.int v)] [] ((I, L, R), 233, 0, 0) _
  refine f_iload_n (M := mX8_isSpeciesOrNone) 1 dX8_isSpeciesOrNone_0 rfl rfl ?_
  refine f_iconst (M := mX8_isSpeciesOrNone) 2 dX8_isSpeciesOrNone_1 ki_m1 rfl ?_
  refine e_icmp_eq (M := mX8_isSpeciesOrNone) (t := 13) dX8_isSpeciesOrNone_2 rfl (fun h1 => ?_) (fun h1 => ?_)
  · refine f_iconst (M := mX8_isSpeciesOrNone) 14 dX8_isSpeciesOrNone_13 ki_1 rfl ?_
    refine f_goto (M := mX8_isSpeciesOrNone) 18 dX8_isSpeciesOrNone_14 rfl ?_
    refine e_rb (M := mX8_isSpeciesOrNone) dX8_isSpeciesOrNone_18 rfl (x_kk rfl) (x_kk rfl) (by decide) ?_
    exact r_b1 (Or.inl h1)
  · refine f_aload_n (M := mX8_isSpeciesOrNone) 6 dX8_isSpeciesOrNone_5 rfl rfl ?_
    refine f_iload_n (M := mX8_isSpeciesOrNone) 7 dX8_isSpeciesOrNone_6 rfl rfl ?_
    refine e_cV (M := mX8_isSpeciesOrNone) [_] 0 0 dX8_isSpeciesOrNone_7 pa_8161 pb_8161 cc_8161 rfl rfl rfl rfl rfl (x_kk rfl) (x_kk rfl) rfl (c_X8_isSpecies hR hβ hS) rfl ?_
    refine e_if_eq (M := mX8_isSpeciesOrNone) (t := 17) dX8_isSpeciesOrNone_10 rfl (fun h2 => ?_) (fun h2 => ?_)
    · refine f_iconst (M := mX8_isSpeciesOrNone) 18 dX8_isSpeciesOrNone_17 ki_0 rfl ?_
      refine e_rb (M := mX8_isSpeciesOrNone) dX8_isSpeciesOrNone_18 rfl (x_kk rfl) (x_kk rfl) (by decide) ?_
      exact r_b0 (fun z => z.elim h1 (x_bF h2))
    · refine f_iconst (M := mX8_isSpeciesOrNone) 14 dX8_isSpeciesOrNone_13 ki_1 rfl ?_
      refine f_goto (M := mX8_isSpeciesOrNone) 18 dX8_isSpeciesOrNone_14 rfl ?_
      refine e_rb (M := mX8_isSpeciesOrNone) dX8_isSpeciesOrNone_18 rfl (x_kk rfl) (x_kk rfl) (by decide) ?_
      exact r_b1 (Or.inr (x_bT h2))
theorem c_X8_isBidder {v : Int32} : x_Cv X mX8_isBidder [.int v] (I, L, R) 233 (.inl (some (.int (x_b (0 ≤ v ∧ v ≤ 7)))), (I, L, R), 233) := by
  show x_Ev X mX8_isBidder 0 [some (.int v)] [] ((I, L, R), 233, 0, 0) _
  refine f_iload_n (M := mX8_isBidder) 1 dX8_isBidder_0 rfl rfl ?_
  refine f_iconst (M := mX8_isBidder) 2 dX8_isBidder_1 ki_0 rfl ?_
  refine f_bipush (M := mX8_isBidder) 4 dX8_isBidder_2 kb_7 rfl ?_
  refine e_cS (M := mX8_isBidder) [_] 0 0 dX8_isBidder_4 pa_8049 cc_8049 rfl rfl rfl rfl rfl (x_kk rfl) (x_kk rfl) rfl (c_X8_isIn) rfl ?_
  refine e_rb (M := mX8_isBidder) dX8_isBidder_7 rfl (x_kk rfl) (x_kk rfl) (by exact x_bN) ?_
  rfl
theorem c_X8_isQuarter {v : Int32} : x_Cv X mX8_isQuarter [.int v] (I, L, R) 233 (.inl (some (.int (x_b (0 ≤ v ∧ v ≤ 11)))), (I, L, R), 233) := by
  show x_Ev X mX8_isQuarter 0 [some (.int v)] [] ((I, L, R), 233, 0, 0) _
  refine f_iload_n (M := mX8_isQuarter) 1 dX8_isQuarter_0 rfl rfl ?_
  refine f_iconst (M := mX8_isQuarter) 2 dX8_isQuarter_1 ki_0 rfl ?_
  refine f_bipush (M := mX8_isQuarter) 4 dX8_isQuarter_2 kb_11 rfl ?_
  refine e_cS (M := mX8_isQuarter) [_] 0 0 dX8_isQuarter_4 pa_8049 cc_8049 rfl rfl rfl rfl rfl (x_kk rfl) (x_kk rfl) rfl (c_X8_isIn) rfl ?_
  refine e_rb (M := mX8_isQuarter) dX8_isQuarter_7 rfl (x_kk rfl) (x_kk rfl) (by exact x_bN) ?_
  rfl
theorem c_X8_isLoad (hR : x_wf R) {β : Nat} (hβ : x_sl β) (hS : R 0 2 = some β) {v : Int32} : x_Cv X mX8_isLoad [.ref 0, .int v] (I, L, R) 233 (.inl (some (.int (x_b (0 ≤ v ∧ v ≤ I (β + 17) 0 - 1)))), (I, L, R), 233) := by
  show x_Ev X mX8_isLoad 0 [some (.ref 0), some (.int v)] [] ((I, L, R), 233, 0, 0) _
  refine f_iload_n (M := mX8_isLoad) 1 dX8_isLoad_0 rfl rfl ?_
  refine f_iconst (M := mX8_isLoad) 2 dX8_isLoad_1 ki_0 rfl ?_
  refine f_aload_n (M := mX8_isLoad) 3 dX8_isLoad_2 rfl rfl ?_
  refine e_getR (M := mX8_isLoad) dX8_isLoad_3 fl_8026 (x_kk rfl) (x_kk rfl) rfl hS ?_
  refine e_getR (M := mX8_isLoad) dX8_isLoad_6 fl_8245 (x_kk rfl) (sl_lt hβ 0 rfl) (sl_s hβ 0 rfl rfl) (wf_6_5 hR hβ) ?_
  refine e_getI (M := mX8_isLoad) dX8_isLoad_9 fl_8249 (x_kk rfl) (sl_lt hβ 17 rfl) (sl_s hβ 17 rfl rfl) ?_
  refine f_iconst (M := mX8_isLoad) 13 dX8_isLoad_12 ki_1 rfl ?_
  refine f_isub (M := mX8_isLoad) 14 dX8_isLoad_13 rfl ?_
  refine e_cS (M := mX8_isLoad) [_] 0 0 dX8_isLoad_14 pa_8049 cc_8049 rfl rfl rfl rfl rfl (x_kk rfl) (x_kk rfl) rfl (c_X8_isIn) rfl ?_
  refine e_rb (M := mX8_isLoad) dX8_isLoad_17 rfl (x_kk rfl) (x_kk rfl) (by exact x_bN) ?_
  rfl
theorem c_X6_isBidding (hR : x_wf R) {β : Nat} (hβ : x_sl β) : x_Cv X mX6_isBidding [.ref β] (I, L, R) 233 (.inl (some (.int (x_b (I β 0 = 1 ∨ I β 0 = 6)))), (I, L, R), 233) := by
  show x_Ev X mX6_isBidding 0 [some (.ref β)] [] ((I, L, R), 233, 0, 0) _
  refine f_aload_n (M := mX6_isBidding) 1 dX6_isBidding_0 rfl rfl ?_
  refine e_getI (M := mX6_isBidding) dX6_isBidding_1 fl_6046 (x_kk rfl) (sl_lt hβ 0 rfl) (sl_s hβ 0 rfl rfl) ?_
  refine f_iconst (M := mX6_isBidding) 5 dX6_isBidding_4 ki_1 rfl ?_
  refine e_icmp_eq (M := mX6_isBidding) (t := 17) dX6_isBidding_5 rfl (fun h1 => ?_) (fun h1 => ?_)
  · refine f_iconst (M := mX6_isBidding) 18 dX6_isBidding_17 ki_1 rfl ?_
    refine f_goto (M := mX6_isBidding) 22 dX6_isBidding_18 rfl ?_
    refine e_rb (M := mX6_isBidding) dX6_isBidding_22 rfl (x_kk rfl) (x_kk rfl) (by decide) ?_
    exact r_b1 (Or.inl h1)
  · refine f_aload_n (M := mX6_isBidding) 9 dX6_isBidding_8 rfl rfl ?_
    refine e_getI (M := mX6_isBidding) dX6_isBidding_9 fl_6046 (x_kk rfl) (sl_lt hβ 0 rfl) (sl_s hβ 0 rfl rfl) ?_
    refine f_bipush (M := mX6_isBidding) 14 dX6_isBidding_12 kb_6 rfl ?_
    refine e_icmp_ne (M := mX6_isBidding) (t := 21) dX6_isBidding_14 rfl (fun h2 => ?_) (fun h2 => ?_)
    · refine f_iconst (M := mX6_isBidding) 22 dX6_isBidding_21 ki_0 rfl ?_
      refine e_rb (M := mX6_isBidding) dX6_isBidding_22 rfl (x_kk rfl) (x_kk rfl) (by decide) ?_
      exact r_b0 (fun z => z.elim h1 h2)
    · refine f_iconst (M := mX6_isBidding) 18 dX6_isBidding_17 ki_1 rfl ?_
      refine f_goto (M := mX6_isBidding) 22 dX6_isBidding_18 rfl ?_
      refine e_rb (M := mX6_isBidding) dX6_isBidding_22 rfl (x_kk rfl) (x_kk rfl) (by decide) ?_
      exact r_b1 (Or.inr (x_dn h2))
theorem c_X6_hasOpenBids (hR : x_wf R) {β : Nat} (hβ : x_sl β) : x_Cv X mX6_hasOpenBids [.ref β] (I, L, R) 233 (.inl (some (.int (x_b (¬ I β 0 = 0 ∧ ¬ (I β 0 = 1 ∨ I β 0 = 6))))), (I, L, R), 233) := by
  show x_Ev X mX6_hasOpenBids 0 [some (.ref β)] [] ((I, L, R), 233, 0, 0) _
  refine f_aload_n (M := mX6_hasOpenBids) 1 dX6_hasOpenBids_0 rfl rfl ?_
  refine e_getI (M := mX6_hasOpenBids) dX6_hasOpenBids_1 fl_6046 (x_kk rfl) (sl_lt hβ 0 rfl) (sl_s hβ 0 rfl rfl) ?_
  refine e_if_eq (M := mX6_hasOpenBids) (t := 18) dX6_hasOpenBids_4 rfl (fun h1 => ?_) (fun h1 => ?_)
  · refine f_iconst (M := mX6_hasOpenBids) 19 dX6_hasOpenBids_18 ki_0 rfl ?_
    refine e_rb (M := mX6_hasOpenBids) dX6_hasOpenBids_19 rfl (x_kk rfl) (x_kk rfl) (by decide) ?_
    exact r_b0 (fun z => z.1 h1)
  · refine f_aload_n (M := mX6_hasOpenBids) 8 dX6_hasOpenBids_7 rfl rfl ?_
    refine e_cV (M := mX6_hasOpenBids) [_] 0 0 dX6_hasOpenBids_8 pa_6073 pb_6073 cc_6073 rfl rfl rfl rfl rfl (x_kk rfl) (x_kk rfl) (x_rcvOK (sl_lt hβ 0 rfl) (sl_s hβ 0 rfl rfl) rfl) (c_X6_isBidding hR hβ) rfl ?_
    refine e_if_ne (M := mX6_hasOpenBids) (t := 18) dX6_hasOpenBids_11 rfl (fun h2 => ?_) (fun h2 => ?_)
    · refine f_iconst (M := mX6_hasOpenBids) 19 dX6_hasOpenBids_18 ki_0 rfl ?_
      refine e_rb (M := mX6_hasOpenBids) dX6_hasOpenBids_19 rfl (x_kk rfl) (x_kk rfl) (by decide) ?_
      exact r_b0 (fun z => z.2 (x_bT h2))
    · refine f_iconst (M := mX6_hasOpenBids) 15 dX6_hasOpenBids_14 ki_1 rfl ?_
      refine f_goto (M := mX6_hasOpenBids) 19 dX6_hasOpenBids_15 rfl ?_
      refine e_rb (M := mX6_hasOpenBids) dX6_hasOpenBids_19 rfl (x_kk rfl) (x_kk rfl) (by decide) ?_
      exact r_b1 ⟨h1, x_bG h2⟩
theorem c_X6_hasContract (hR : x_wf R) {β : Nat} (hβ : x_sl β) : x_Cv X mX6_hasContract [.ref β] (I, L, R) 233 (.inl (some (.int (x_b (3 ≤ I β 0)))), (I, L, R), 233) := by
  show x_Ev X mX6_hasContract 0 [some (.ref β)] [] ((I, L, R), 233, 0, 0) _
  refine f_aload_n (M := mX6_hasContract) 1 dX6_hasContract_0 rfl rfl ?_
  refine e_getI (M := mX6_hasContract) dX6_hasContract_1 fl_6046 (x_kk rfl) (sl_lt hβ 0 rfl) (sl_s hβ 0 rfl rfl) ?_
  refine f_iconst (M := mX6_hasContract) 5 dX6_hasContract_4 ki_3 rfl ?_
  refine e_icmp_lt (M := mX6_hasContract) (t := 12) dX6_hasContract_5 rfl (fun h1 => ?_) (fun h1 => ?_)
  · refine f_iconst (M := mX6_hasContract) 13 dX6_hasContract_12 ki_0 rfl ?_
    refine e_rb (M := mX6_hasContract) dX6_hasContract_13 rfl (x_kk rfl) (x_kk rfl) (by decide) ?_
    exact r_b0 (fun z => absurd z (i_nle.mpr h1))
  · refine f_iconst (M := mX6_hasContract) 9 dX6_hasContract_8 ki_1 rfl ?_
    refine f_goto (M := mX6_hasContract) 13 dX6_hasContract_9 rfl ?_
    refine e_rb (M := mX6_hasContract) dX6_hasContract_13 rfl (x_kk rfl) (x_kk rfl) (by decide) ?_
    exact r_b1 (i_nlt.mp h1)
theorem c_J9_min_7cf53 {x y : Int32} : x_Cv X mJ9_min_7cf53 [.int x, .int y] (I, L, R) 233 (.inl (some (.int (if y < x then y else x))), (I, L, R), 233) := by
  show x_Ev X mJ9_min_7cf53 0 [some (.int x), some (.int y)] [] ((I, L, R), 233, 0, 0) _
  refine f_iload_n (M := mJ9_min_7cf53) 1 dJ9_min_7cf53_0 rfl rfl ?_
  refine f_iload_n (M := mJ9_min_7cf53) 2 dJ9_min_7cf53_1 rfl rfl ?_
  refine e_icmp_gt (M := mJ9_min_7cf53) (t := 9) dJ9_min_7cf53_2 rfl (fun h1 => ?_) (fun h1 => ?_)
  · refine f_iload_n (M := mJ9_min_7cf53) 10 dJ9_min_7cf53_9 rfl rfl ?_
    refine e_ri (M := mJ9_min_7cf53) dJ9_min_7cf53_10 rfl (x_kk rfl) (x_kk rfl) ?_
    exact r_i (if_pos h1).symm
  · refine f_iload_n (M := mJ9_min_7cf53) 6 dJ9_min_7cf53_5 rfl rfl ?_
    refine f_goto (M := mJ9_min_7cf53) 10 dJ9_min_7cf53_6 rfl ?_
    refine e_ri (M := mJ9_min_7cf53) dJ9_min_7cf53_10 rfl (x_kk rfl) (x_kk rfl) ?_
    exact r_i (if_neg h1).symm
theorem c_J9_max_7cf53 {x y : Int32} : x_Cv X mJ9_max_7cf53 [.int x, .int y] (I, L, R) 233 (.inl (some (.int (if x < y then y else x))), (I, L, R), 233) := by
  show x_Ev X mJ9_max_7cf53 0 [some (.int x), some (.int y)] [] ((I, L, R), 233, 0, 0) _
  refine f_iload_n (M := mJ9_max_7cf53) 1 dJ9_max_7cf53_0 rfl rfl ?_
  refine f_iload_n (M := mJ9_max_7cf53) 2 dJ9_max_7cf53_1 rfl rfl ?_
  refine e_icmp_lt (M := mJ9_max_7cf53) (t := 9) dJ9_max_7cf53_2 rfl (fun h1 => ?_) (fun h1 => ?_)
  · refine f_iload_n (M := mJ9_max_7cf53) 10 dJ9_max_7cf53_9 rfl rfl ?_
    refine e_ri (M := mJ9_max_7cf53) dJ9_max_7cf53_10 rfl (x_kk rfl) (x_kk rfl) ?_
    exact r_i (if_pos h1).symm
  · refine f_iload_n (M := mJ9_max_7cf53) 6 dJ9_max_7cf53_5 rfl rfl ?_
    refine f_goto (M := mJ9_max_7cf53) 10 dJ9_max_7cf53_6 rfl ?_
    refine e_ri (M := mJ9_max_7cf53) dJ9_max_7cf53_10 rfl (x_kk rfl) (x_kk rfl) ?_
    exact r_i (if_neg h1).symm
theorem c_J9_abs_0f7a4 {x : Int32} : x_Cv X mJ9_abs_0f7a4 [.int x] (I, L, R) 233 (.inl (some (.int (if 0 ≤ x then x else -x))), (I, L, R), 233) := by
  show x_Ev X mJ9_abs_0f7a4 0 [some (.int x)] [] ((I, L, R), 233, 0, 0) _
  refine f_iload_n (M := mJ9_abs_0f7a4) 1 dJ9_abs_0f7a4_0 rfl rfl ?_
  refine e_if_ge (M := mJ9_abs_0f7a4) (t := 9) dJ9_abs_0f7a4_1 rfl (fun h1 => ?_) (fun h1 => ?_)
  · refine f_iload_n (M := mJ9_abs_0f7a4) 10 dJ9_abs_0f7a4_9 rfl rfl ?_
    refine e_ri (M := mJ9_abs_0f7a4) dJ9_abs_0f7a4_10 rfl (x_kk rfl) (x_kk rfl) ?_
    exact r_i (if_pos h1).symm
  · refine f_iload_n (M := mJ9_abs_0f7a4) 5 dJ9_abs_0f7a4_4 rfl rfl ?_
    refine f_ineg (M := mJ9_abs_0f7a4) 6 dJ9_abs_0f7a4_5 rfl ?_
    refine f_goto (M := mJ9_abs_0f7a4) 10 dJ9_abs_0f7a4_6 rfl ?_
    refine e_ri (M := mJ9_abs_0f7a4) dJ9_abs_0f7a4_10 rfl (x_kk rfl) (x_kk rfl) ?_
    exact r_i (if_neg h1).symm
theorem c_J9_abs_067f4 {x : Int64} : x_Cv X mJ9_abs_067f4 [.long x] (I, L, R) 233 (.inl (some (.long (if 0 ≤ x then x else -x))), (I, L, R), 233) := by
  show x_Ev X mJ9_abs_067f4 0 [some (.long x), none] [] ((I, L, R), 233, 0, 0) _
  refine f_lload_n (M := mJ9_abs_067f4) 1 dJ9_abs_067f4_0 rfl rfl ?_
  refine f_lconst (M := mJ9_abs_067f4) 2 dJ9_abs_067f4_1 kl_0 rfl ?_
  refine f_lcmp (M := mJ9_abs_067f4) 3 dJ9_abs_067f4_2 rfl ?_
  refine e_if_ge (M := mJ9_abs_067f4) (t := 11) dJ9_abs_067f4_3 rfl (fun h1 => ?_) (fun h1 => ?_)
  · refine f_lload_n (M := mJ9_abs_067f4) 12 dJ9_abs_067f4_11 rfl rfl ?_
    refine e_rl (M := mJ9_abs_067f4) dJ9_abs_067f4_12 rfl (x_kk rfl) (x_kk rfl) ?_
    exact r_l (if_pos (lc_ge.mp h1)).symm
  · refine f_lload_n (M := mJ9_abs_067f4) 7 dJ9_abs_067f4_6 rfl rfl ?_
    refine f_lneg (M := mJ9_abs_067f4) 8 dJ9_abs_067f4_7 rfl ?_
    refine f_goto (M := mJ9_abs_067f4) 12 dJ9_abs_067f4_8 rfl ?_
    refine e_rl (M := mJ9_abs_067f4) dJ9_abs_067f4_12 rfl (x_kk rfl) (x_kk rfl) ?_
    exact r_l (if_neg (fun z => h1 (lc_ge.mpr z))).symm
theorem c_J9_max_f86c9 {x y : Int64} : x_Cv X mJ9_max_f86c9 [.long x, .long y] (I, L, R) 233 (.inl (some (.long (if x < y then y else x))), (I, L, R), 233) := by
  show x_Ev X mJ9_max_f86c9 0 [some (.long x), none, some (.long y), none] [] ((I, L, R), 233, 0, 0) _
  refine f_lload_n (M := mJ9_max_f86c9) 1 dJ9_max_f86c9_0 rfl rfl ?_
  refine f_lload_n (M := mJ9_max_f86c9) 2 dJ9_max_f86c9_1 rfl rfl ?_
  refine f_lcmp (M := mJ9_max_f86c9) 3 dJ9_max_f86c9_2 rfl ?_
  refine e_if_lt (M := mJ9_max_f86c9) (t := 10) dJ9_max_f86c9_3 rfl (fun h1 => ?_) (fun h1 => ?_)
  · refine f_lload_n (M := mJ9_max_f86c9) 11 dJ9_max_f86c9_10 rfl rfl ?_
    refine e_rl (M := mJ9_max_f86c9) dJ9_max_f86c9_11 rfl (x_kk rfl) (x_kk rfl) ?_
    exact r_l (if_pos (lc_lt.mp h1)).symm
  · refine f_lload_n (M := mJ9_max_f86c9) 7 dJ9_max_f86c9_6 rfl rfl ?_
    refine f_goto (M := mJ9_max_f86c9) 11 dJ9_max_f86c9_7 rfl ?_
    refine e_rl (M := mJ9_max_f86c9) dJ9_max_f86c9_11 rfl (x_kk rfl) (x_kk rfl) ?_
    exact r_l (if_neg (fun z => h1 (lc_lt.mpr z))).symm
def x_fdiv (x y : Int32) : Int32 := if 0 ≤ x ^^^ y then x / y else if x / y * y = x then x / y else x / y - 1
theorem c_J9_floorDiv_7cf53 {x y : Int32} (hy : ¬ y = 0) : x_Cv X mJ9_floorDiv_7cf53 [.int x, .int y] (I, L, R) 233 (.inl (some (.int (x_fdiv x y))), (I, L, R), 233) := by
  show x_Ev X mJ9_floorDiv_7cf53 0 [some (.int x), some (.int y), none] [] ((I, L, R), 233, 0, 0) _
  refine f_iload_n (M := mJ9_floorDiv_7cf53) 1 dJ9_floorDiv_7cf53_0 rfl rfl ?_
  refine f_iload_n (M := mJ9_floorDiv_7cf53) 2 dJ9_floorDiv_7cf53_1 rfl rfl ?_
  refine e_idiv (M := mJ9_floorDiv_7cf53) dJ9_floorDiv_7cf53_2 hy ?_
  refine f_istore_n (M := mJ9_floorDiv_7cf53) (ls' := [_, _, _]) 4 dJ9_floorDiv_7cf53_3 rfl rfl rfl ?_
  refine f_iload_n (M := mJ9_floorDiv_7cf53) 5 dJ9_floorDiv_7cf53_4 rfl rfl ?_
  refine f_iload_n (M := mJ9_floorDiv_7cf53) 6 dJ9_floorDiv_7cf53_5 rfl rfl ?_
  refine f_ixor (M := mJ9_floorDiv_7cf53) 7 dJ9_floorDiv_7cf53_6 rfl ?_
  refine e_if_ge (M := mJ9_floorDiv_7cf53) (t := 21) dJ9_floorDiv_7cf53_7 rfl (fun h1 => ?_) (fun h1 => ?_)
  · refine f_iload_n (M := mJ9_floorDiv_7cf53) 22 dJ9_floorDiv_7cf53_21 rfl rfl ?_
    refine e_ri (M := mJ9_floorDiv_7cf53) dJ9_floorDiv_7cf53_22 rfl (x_kk rfl) (x_kk rfl) ?_
    exact r_i (by unfold x_fdiv; rw [if_pos h1])
  · refine f_iload_n (M := mJ9_floorDiv_7cf53) 11 dJ9_floorDiv_7cf53_10 rfl rfl ?_
    refine f_iload_n (M := mJ9_floorDiv_7cf53) 12 dJ9_floorDiv_7cf53_11 rfl rfl ?_
    refine f_imul (M := mJ9_floorDiv_7cf53) 13 dJ9_floorDiv_7cf53_12 rfl ?_
    refine f_iload_n (M := mJ9_floorDiv_7cf53) 14 dJ9_floorDiv_7cf53_13 rfl rfl ?_
    refine e_icmp_eq (M := mJ9_floorDiv_7cf53) (t := 21) dJ9_floorDiv_7cf53_14 rfl (fun h2 => ?_) (fun h2 => ?_)
    · refine f_iload_n (M := mJ9_floorDiv_7cf53) 22 dJ9_floorDiv_7cf53_21 rfl rfl ?_
      refine e_ri (M := mJ9_floorDiv_7cf53) dJ9_floorDiv_7cf53_22 rfl (x_kk rfl) (x_kk rfl) ?_
      exact r_i (by unfold x_fdiv; rw [if_neg h1, if_pos h2])
    · refine f_iload_n (M := mJ9_floorDiv_7cf53) 18 dJ9_floorDiv_7cf53_17 rfl rfl ?_
      refine f_iconst (M := mJ9_floorDiv_7cf53) 19 dJ9_floorDiv_7cf53_18 ki_1 rfl ?_
      refine f_isub (M := mJ9_floorDiv_7cf53) 20 dJ9_floorDiv_7cf53_19 rfl ?_
      refine e_ri (M := mJ9_floorDiv_7cf53) dJ9_floorDiv_7cf53_20 rfl (x_kk rfl) (x_kk rfl) ?_
      exact r_i (by unfold x_fdiv; rw [if_neg h1, if_neg h2])
end

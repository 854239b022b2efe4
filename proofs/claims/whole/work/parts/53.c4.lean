/-! ===== the class: queries, an outcome each (laid by wip/whole/src/c4.py) ===== -/
section
variable {X : x_X} {I : Nat → Nat → Int32} {L : Nat → Nat → Int64} {R : Nat → Nat → Option Nat}
theorem c_X8_phase (hR : x_wf R) {β : Nat} (hβ : x_sl β) (hS : R 0 2 = some β) : x_Cv X mX8_phase [.ref 0] (I, L, R) 233 (.inl (some (.int (I β 0))), (I, L, R), 233) := by
  show x_Ev X mX8_phase 0 [some (.ref 0)] [] ((I, L, R), 233, 0, 0) _
  refine f_aload_n (M := mX8_phase) 1 dX8_phase_0 rfl rfl ?_
  refine e_getR (M := mX8_phase) dX8_phase_1 fl_8026 (x_kk rfl) (x_kk rfl) rfl hS ?_
  refine e_getI (M := mX8_phase) dX8_phase_4 fl_8067 (x_kk rfl) (sl_lt hβ 0 rfl) (sl_s hβ 0 rfl rfl) ?_
  refine e_ri (M := mX8_phase) dX8_phase_7 rfl (x_kk rfl) (x_kk rfl) ?_
  rfl
theorem c_X8_plotCount (hR : x_wf R) {β : Nat} (hβ : x_sl β) (hS : R 0 2 = some β) : x_Cv X mX8_plotCount [.ref 0] (I, L, R) 233 (.inl (some (.int (I (β + 5) 0))), (I, L, R), 233) := by
  show x_Ev X mX8_plotCount 0 [some (.ref 0)] [] ((I, L, R), 233, 0, 0) _
  refine f_aload_n (M := mX8_plotCount) 1 dX8_plotCount_0 rfl rfl ?_
  refine e_getR (M := mX8_plotCount) dX8_plotCount_1 fl_8026 (x_kk rfl) (x_kk rfl) rfl hS ?_
  refine e_getR (M := mX8_plotCount) dX8_plotCount_4 fl_8070 (x_kk rfl) (sl_lt hβ 0 rfl) (sl_s hβ 0 rfl rfl) (wf_6_2 hR hβ) ?_
  refine e_getI (M := mX8_plotCount) dX8_plotCount_7 fl_8074 (x_kk rfl) (sl_lt hβ 5 rfl) (sl_s hβ 5 rfl rfl) ?_
  refine e_ri (M := mX8_plotCount) dX8_plotCount_10 rfl (x_kk rfl) (x_kk rfl) ?_
  rfl
theorem c_X8_month (hR : x_wf R) {β : Nat} (hβ : x_sl β) (hS : R 0 2 = some β) : x_Cv X mX8_month [.ref 0] (I, L, R) 233 (.inl (some (.int (I (β + 12) 6))), (I, L, R), 233) := by
  show x_Ev X mX8_month 0 [some (.ref 0)] [] ((I, L, R), 233, 0, 0) _
  refine f_aload_n (M := mX8_month) 1 dX8_month_0 rfl rfl ?_
  refine e_getR (M := mX8_month) dX8_month_1 fl_8026 (x_kk rfl) (x_kk rfl) rfl hS ?_
  refine e_getR (M := mX8_month) dX8_month_4 fl_8227 (x_kk rfl) (sl_lt hβ 0 rfl) (sl_s hβ 0 rfl rfl) (wf_6_4 hR hβ) ?_
  refine e_getI (M := mX8_month) dX8_month_7 fl_8254 (x_kk rfl) (sl_lt hβ 12 rfl) (sl_s hβ 12 rfl rfl) ?_
  refine e_ri (M := mX8_month) dX8_month_10 rfl (x_kk rfl) (x_kk rfl) ?_
  rfl
theorem c_X8_debt (hR : x_wf R) {β : Nat} (hβ : x_sl β) (hS : R 0 2 = some β) : x_Cv X mX8_debt [.ref 0] (I, L, R) 233 (.inl (some (.long (L (β + 12) 7))), (I, L, R), 233) := by
  show x_Ev X mX8_debt 0 [some (.ref 0)] [] ((I, L, R), 233, 0, 0) _
  refine f_aload_n (M := mX8_debt) 1 dX8_debt_0 rfl rfl ?_
  refine e_getR (M := mX8_debt) dX8_debt_1 fl_8026 (x_kk rfl) (x_kk rfl) rfl hS ?_
  refine e_getR (M := mX8_debt) dX8_debt_4 fl_8227 (x_kk rfl) (sl_lt hβ 0 rfl) (sl_s hβ 0 rfl rfl) (wf_6_4 hR hβ) ?_
  refine e_getL (M := mX8_debt) dX8_debt_7 fl_8298 (x_kk rfl) (sl_lt hβ 12 rfl) (sl_s hβ 12 rfl rfl) ?_
  refine e_rl (M := mX8_debt) dX8_debt_10 rfl (x_kk rfl) (x_kk rfl) ?_
  rfl
theorem c_X8_errorPosition (hR : x_wf R) : x_Cv X mX8_errorPosition [.ref 0] (I, L, R) 233 (.inl (some (.int (I 1 2))), (I, L, R), 233) := by
  show x_Ev X mX8_errorPosition 0 [some (.ref 0)] [] ((I, L, R), 233, 0, 0) _
  refine f_aload_n (M := mX8_errorPosition) 1 dX8_errorPosition_0 rfl rfl ?_
  refine e_getR (M := mX8_errorPosition) dX8_errorPosition_1 fl_8010 (x_kk rfl) (x_kk rfl) rfl (wf_8_0 hR) ?_
  refine e_getI (M := mX8_errorPosition) dX8_errorPosition_4 fl_8064 (x_kk rfl) (x_kk rfl) rfl ?_
  refine e_ri (M := mX8_errorPosition) dX8_errorPosition_7 rfl (x_kk rfl) (x_kk rfl) ?_
  rfl
theorem c_X8_volume_x2 (hR : x_wf R) {β : Nat} (hβ : x_sl β) (hS : R 0 2 = some β) {v : Int32} (h1 : ¬ (0 ≤ v ∧ v ≤ I (β + 1) 0 - 1)) : x_Cv X mX8_volume [.ref 0, .int v] (I, L, R) 233 (.inr 2, (I, L, R), 233) := by
  show x_Ev X mX8_volume 0 [some (.ref 0), some (.int v)] [] ((I, L, R), 233, 0, 0) _
  refine f_aload_n (M := mX8_volume) 1 dX8_volume_0 rfl rfl ?_
  refine f_iload_n (M := mX8_volume) 2 dX8_volume_1 rfl rfl ?_
  refine e_cV (M := mX8_volume) [_] 0 0 dX8_volume_2 pa_8161 pb_8161 cc_8161 rfl rfl rfl rfl rfl (x_kk rfl) (x_kk rfl) rfl (c_X8_isSpecies hR hβ hS) rfl ?_
  exact e_cSX (M := mX8_volume) 1 6 dX8_volume_5 pa_8103 cc_8103 rfl rfl rfl rfl rfl (x_kk rfl) (x_kk rfl) rfl (c_X8_requireExisting_x (x_b0 h1)) rfl
theorem c_X8_volume_x0 (hR : x_wf R) {β : Nat} (hβ : x_sl β) (hS : R 0 2 = some β) {Ns s : Nat} (hNs : Ns ≤ 6) (hn : I (β + 1) 0 = Int32.ofNat Ns) (hs : s < Ns) (h2 : I β 0 = 0) : x_Cv X mX8_volume [.ref 0, .int (Int32.ofNat s)] (I, L, R) 233 (.inr 0, (I, L, R), 233) := by
  show x_Ev X mX8_volume 0 [some (.ref 0), some (.int (Int32.ofNat s))] [] ((I, L, R), 233, 0, 0) _
  refine f_aload_n (M := mX8_volume) 1 dX8_volume_0 rfl rfl ?_
  refine f_iload_n (M := mX8_volume) 2 dX8_volume_1 rfl rfl ?_
  refine e_cV (M := mX8_volume) [_] 0 0 dX8_volume_2 pa_8161 pb_8161 cc_8161 rfl rfl rfl rfl rfl (x_kk rfl) (x_kk rfl) rfl (c_X8_isSpecies hR hβ hS) rfl ?_
  refine e_cS (M := mX8_volume) [] 1 6 dX8_volume_5 pa_8103 cc_8103 rfl rfl rfl rfl rfl (x_kk rfl) (x_kk rfl) rfl (c_X8_requireExisting (x_bn (in_ok hn (by omega) hs))) rfl ?_
  refine f_aload_n (M := mX8_volume) 9 dX8_volume_8 rfl rfl ?_
  refine e_getR (M := mX8_volume) dX8_volume_9 fl_8026 (x_kk rfl) (x_kk rfl) rfl hS ?_
  refine e_getI (M := mX8_volume) dX8_volume_12 fl_8067 (x_kk rfl) (sl_lt hβ 0 rfl) (sl_s hβ 0 rfl rfl) ?_
  refine e_if_eqT (M := mX8_volume) 22 dX8_volume_15 rfl h2 ?_
  refine f_iconst (M := mX8_volume) 23 dX8_volume_22 ki_0 rfl ?_
  exact e_cSX (M := mX8_volume) 2 12 dX8_volume_23 pa_8037 cc_8037 rfl rfl rfl rfl rfl (x_kk rfl) (x_kk rfl) rfl (c_X8_requireState_x rfl) rfl
theorem c_X8_volume_ok (hR : x_wf R) {β : Nat} (hβ : x_sl β) (hS : R 0 2 = some β) {Ns s : Nat} (hNs : Ns ≤ 6) (hn : I (β + 1) 0 = Int32.ofNat Ns) (hs : s < Ns) (h2 : ¬ I β 0 = 0) : x_Cv X mX8_volume [.ref 0, .int (Int32.ofNat s)] (I, L, R) 233 (.inl (some (.int (I (β + 8) s))), (I, L, R), 233) := by
  show x_Ev X mX8_volume 0 [some (.ref 0), some (.int (Int32.ofNat s))] [] ((I, L, R), 233, 0, 0) _
  refine f_aload_n (M := mX8_volume) 1 dX8_volume_0 rfl rfl ?_
  refine f_iload_n (M := mX8_volume) 2 dX8_volume_1 rfl rfl ?_
  refine e_cV (M := mX8_volume) [_] 0 0 dX8_volume_2 pa_8161 pb_8161 cc_8161 rfl rfl rfl rfl rfl (x_kk rfl) (x_kk rfl) rfl (c_X8_isSpecies hR hβ hS) rfl ?_
  refine e_cS (M := mX8_volume) [] 1 6 dX8_volume_5 pa_8103 cc_8103 rfl rfl rfl rfl rfl (x_kk rfl) (x_kk rfl) rfl (c_X8_requireExisting (x_bn (in_ok hn (by omega) hs))) rfl ?_
  refine f_aload_n (M := mX8_volume) 9 dX8_volume_8 rfl rfl ?_
  refine e_getR (M := mX8_volume) dX8_volume_9 fl_8026 (x_kk rfl) (x_kk rfl) rfl hS ?_
  refine e_getI (M := mX8_volume) dX8_volume_12 fl_8067 (x_kk rfl) (sl_lt hβ 0 rfl) (sl_s hβ 0 rfl rfl) ?_
  refine e_if_eqF (M := mX8_volume) 22 dX8_volume_15 rfl h2 ?_
  refine f_iconst (M := mX8_volume) 19 dX8_volume_18 ki_1 rfl ?_
  refine f_goto (M := mX8_volume) 23 dX8_volume_19 rfl ?_
  refine e_cS (M := mX8_volume) [] 2 12 dX8_volume_23 pa_8037 cc_8037 rfl rfl rfl rfl rfl (x_kk rfl) (x_kk rfl) rfl (c_X8_requireState (by decide)) rfl ?_
  refine f_aload_n (M := mX8_volume) 27 dX8_volume_26 rfl rfl ?_
  refine e_getR (M := mX8_volume) dX8_volume_27 fl_8026 (x_kk rfl) (x_kk rfl) rfl hS ?_
  refine e_getR (M := mX8_volume) dX8_volume_30 fl_8148 (x_kk rfl) (sl_lt hβ 0 rfl) (sl_s hβ 0 rfl rfl) (wf_6_3 hR hβ) ?_
  refine e_getR (M := mX8_volume) dX8_volume_33 fl_8152 (x_kk rfl) (sl_lt hβ 7 rfl) (sl_s hβ 7 rfl rfl) (wf_0_0 hR hβ) ?_
  refine f_iload_n (M := mX8_volume) 37 dX8_volume_36 rfl rfl ?_
  refine e_ild (M := mX8_volume) (w := 6) (j := s) dX8_volume_37 (sl_lt hβ 8 rfl) (sl_shp hβ 8 rfl) rfl (by omega) (by omega) ?_
  refine e_ri (M := mX8_volume) dX8_volume_38 rfl (x_kk rfl) (x_kk rfl) ?_
  rfl
theorem c_X8_remaining_x2 (hR : x_wf R) {β : Nat} (hβ : x_sl β) (hS : R 0 2 = some β) {v : Int32} (h1 : ¬ (0 ≤ v ∧ v ≤ I (β + 1) 0 - 1)) : x_Cv X mX8_remaining [.ref 0, .int v] (I, L, R) 233 (.inr 2, (I, L, R), 233) := by
  show x_Ev X mX8_remaining 0 [some (.ref 0), some (.int v)] [] ((I, L, R), 233, 0, 0) _
  refine f_aload_n (M := mX8_remaining) 1 dX8_remaining_0 rfl rfl ?_
  refine f_iload_n (M := mX8_remaining) 2 dX8_remaining_1 rfl rfl ?_
  refine e_cV (M := mX8_remaining) [_] 0 0 dX8_remaining_2 pa_8161 pb_8161 cc_8161 rfl rfl rfl rfl rfl (x_kk rfl) (x_kk rfl) rfl (c_X8_isSpecies hR hβ hS) rfl ?_
  exact e_cSX (M := mX8_remaining) 1 6 dX8_remaining_5 pa_8103 cc_8103 rfl rfl rfl rfl rfl (x_kk rfl) (x_kk rfl) rfl (c_X8_requireExisting_x (x_b0 h1)) rfl
theorem c_X8_remaining_x0 (hR : x_wf R) {β : Nat} (hβ : x_sl β) (hS : R 0 2 = some β) {Ns s : Nat} (hNs : Ns ≤ 6) (hn : I (β + 1) 0 = Int32.ofNat Ns) (hs : s < Ns) (h2 : ¬ 3 ≤ I β 0) : x_Cv X mX8_remaining [.ref 0, .int (Int32.ofNat s)] (I, L, R) 233 (.inr 0, (I, L, R), 233) := by
  show x_Ev X mX8_remaining 0 [some (.ref 0), some (.int (Int32.ofNat s))] [] ((I, L, R), 233, 0, 0) _
  refine f_aload_n (M := mX8_remaining) 1 dX8_remaining_0 rfl rfl ?_
  refine f_iload_n (M := mX8_remaining) 2 dX8_remaining_1 rfl rfl ?_
  refine e_cV (M := mX8_remaining) [_] 0 0 dX8_remaining_2 pa_8161 pb_8161 cc_8161 rfl rfl rfl rfl rfl (x_kk rfl) (x_kk rfl) rfl (c_X8_isSpecies hR hβ hS) rfl ?_
  refine e_cS (M := mX8_remaining) [] 1 6 dX8_remaining_5 pa_8103 cc_8103 rfl rfl rfl rfl rfl (x_kk rfl) (x_kk rfl) rfl (c_X8_requireExisting (x_bn (in_ok hn (by omega) hs))) rfl ?_
  refine f_aload_n (M := mX8_remaining) 9 dX8_remaining_8 rfl rfl ?_
  refine e_getR (M := mX8_remaining) dX8_remaining_9 fl_8026 (x_kk rfl) (x_kk rfl) rfl hS ?_
  refine e_cV (M := mX8_remaining) [_] 1 6 dX8_remaining_12 pa_8236 pb_8236 cc_8236 rfl rfl rfl rfl rfl (x_kk rfl) (x_kk rfl) (x_rcvOK (sl_lt hβ 0 rfl) (sl_s hβ 0 rfl rfl) rfl) (c_X6_hasContract hR hβ) rfl ?_
  exact e_cSX (M := mX8_remaining) 2 12 dX8_remaining_15 pa_8037 cc_8037 rfl rfl rfl rfl rfl (x_kk rfl) (x_kk rfl) rfl (c_X8_requireState_x (x_b0 h2)) rfl
theorem c_X8_remaining_ok (hR : x_wf R) {β : Nat} (hβ : x_sl β) (hS : R 0 2 = some β) {Ns s : Nat} (hNs : Ns ≤ 6) (hn : I (β + 1) 0 = Int32.ofNat Ns) (hs : s < Ns) {Nl : Nat} (hNl : Nl ≤ 60) (hl : I (β + 17) 0 = Int32.ofNat Nl) (h2 : 3 ≤ I β 0) : x_Cv X mX8_remaining [.ref 0, .int (Int32.ofNat s)] (I, L, R) 233 (.inl (some (.int (cv_rem I β s Nl))), (I, L, R), 233) := by
  show x_Ev X mX8_remaining 0 [some (.ref 0), some (.int (Int32.ofNat s))] [] ((I, L, R), 233, 0, 0) _
  refine f_aload_n (M := mX8_remaining) 1 dX8_remaining_0 rfl rfl ?_
  refine f_iload_n (M := mX8_remaining) 2 dX8_remaining_1 rfl rfl ?_
  refine e_cV (M := mX8_remaining) [_] 0 0 dX8_remaining_2 pa_8161 pb_8161 cc_8161 rfl rfl rfl rfl rfl (x_kk rfl) (x_kk rfl) rfl (c_X8_isSpecies hR hβ hS) rfl ?_
  refine e_cS (M := mX8_remaining) [] 1 6 dX8_remaining_5 pa_8103 cc_8103 rfl rfl rfl rfl rfl (x_kk rfl) (x_kk rfl) rfl (c_X8_requireExisting (x_bn (in_ok hn (by omega) hs))) rfl ?_
  refine f_aload_n (M := mX8_remaining) 9 dX8_remaining_8 rfl rfl ?_
  refine e_getR (M := mX8_remaining) dX8_remaining_9 fl_8026 (x_kk rfl) (x_kk rfl) rfl hS ?_
  refine e_cV (M := mX8_remaining) [_] 1 6 dX8_remaining_12 pa_8236 pb_8236 cc_8236 rfl rfl rfl rfl rfl (x_kk rfl) (x_kk rfl) (x_rcvOK (sl_lt hβ 0 rfl) (sl_s hβ 0 rfl rfl) rfl) (c_X6_hasContract hR hβ) rfl ?_
  refine e_cS (M := mX8_remaining) [] 2 12 dX8_remaining_15 pa_8037 cc_8037 rfl rfl rfl rfl rfl (x_kk rfl) (x_kk rfl) rfl (c_X8_requireState (x_bn h2)) rfl ?_
  refine f_aload_n (M := mX8_remaining) 19 dX8_remaining_18 rfl rfl ?_
  refine e_getR (M := mX8_remaining) dX8_remaining_19 fl_8026 (x_kk rfl) (x_kk rfl) rfl hS ?_
  refine f_iload_n (M := mX8_remaining) 23 dX8_remaining_22 rfl rfl ?_
  refine e_cV (M := mX8_remaining) [_] 2 12 dX8_remaining_23 pa_8316 pb_8316 cc_8316 rfl rfl rfl rfl rfl (x_kk rfl) (x_kk rfl) (x_rcvOK (sl_lt hβ 0 rfl) (sl_s hβ 0 rfl rfl) rfl) (c_X6_remainingOf hR hβ hNl hl (by omega)) rfl ?_
  refine e_ri (M := mX8_remaining) dX8_remaining_26 rfl (x_kk rfl) (x_kk rfl) ?_
  rfl
theorem c_X8_problem_x2 (hR : x_wf R) {β : Nat} (hβ : x_sl β) (hS : R 0 2 = some β) {v : Int32} (h : ¬ (0 ≤ v ∧ v ≤ 7)) : x_Cv X mX8_problem [.ref 0, .int v] (I, L, R) 233 (.inr 2, (I, L, R), 233) := by
  show x_Ev X mX8_problem 0 [some (.ref 0), some (.int v)] [] ((I, L, R), 233, 0, 0) _
  refine f_iload_n (M := mX8_problem) 1 dX8_problem_0 rfl rfl ?_
  refine e_cS (M := mX8_problem) [_] 0 0 dX8_problem_1 pa_8164 cc_8164 rfl rfl rfl rfl rfl (x_kk rfl) (x_kk rfl) rfl (c_X8_isBidder) rfl ?_
  exact e_cSX (M := mX8_problem) 1 6 dX8_problem_4 pa_8103 cc_8103 rfl rfl rfl rfl rfl (x_kk rfl) (x_kk rfl) rfl (c_X8_requireExisting_x (x_b0 h)) rfl
theorem c_X8_problem_x0 (hR : x_wf R) {β : Nat} (hβ : x_sl β) (hS : R 0 2 = some β) {q : Nat} (hq : q < 8) (h : ¬ (¬ I β 0 = 0 ∧ ¬ (I β 0 = 1 ∨ I β 0 = 6))) : x_Cv X mX8_problem [.ref 0, .int (Int32.ofNat q)] (I, L, R) 233 (.inr 0, (I, L, R), 233) := by
  show x_Ev X mX8_problem 0 [some (.ref 0), some (.int (Int32.ofNat q))] [] ((I, L, R), 233, 0, 0) _
  refine f_iload_n (M := mX8_problem) 1 dX8_problem_0 rfl rfl ?_
  refine e_cS (M := mX8_problem) [_] 0 0 dX8_problem_1 pa_8164 cc_8164 rfl rfl rfl rfl rfl (x_kk rfl) (x_kk rfl) rfl (c_X8_isBidder) rfl ?_
  refine e_cS (M := mX8_problem) [] 1 6 dX8_problem_4 pa_8103 cc_8103 rfl rfl rfl rfl rfl (x_kk rfl) (x_kk rfl) rfl (c_X8_requireExisting (x_bn (ib_ok kn_7 (by omega) (by omega)))) rfl ?_
  refine f_aload_n (M := mX8_problem) 8 dX8_problem_7 rfl rfl ?_
  refine e_getR (M := mX8_problem) dX8_problem_8 fl_8026 (x_kk rfl) (x_kk rfl) rfl hS ?_
  refine e_cV (M := mX8_problem) [_] 1 6 dX8_problem_11 pa_8195 pb_8195 cc_8195 rfl rfl rfl rfl rfl (x_kk rfl) (x_kk rfl) (x_rcvOK (sl_lt hβ 0 rfl) (sl_s hβ 0 rfl rfl) rfl) (c_X6_hasOpenBids hR hβ) rfl ?_
  exact e_cSX (M := mX8_problem) 2 12 dX8_problem_14 pa_8037 cc_8037 rfl rfl rfl rfl rfl (x_kk rfl) (x_kk rfl) rfl (c_X8_requireState_x (x_b0 h)) rfl
theorem c_X8_problem_ok (hR : x_wf R) {β : Nat} (hβ : x_sl β) (hS : R 0 2 = some β) {q : Nat} (hq : q < 8) {Ns : Nat} (hNs : Ns ≤ 6) (hn : I (β + 1) 0 = Int32.ofNat Ns) (h : (¬ I β 0 = 0 ∧ ¬ (I β 0 = 1 ∨ I β 0 = 6))) : x_Cv X mX8_problem [.ref 0, .int (Int32.ofNat q)] (I, L, R) 233 (.inl (some (.int (cv_prob I β q Ns))), (I, L, R), 233) := by
  show x_Ev X mX8_problem 0 [some (.ref 0), some (.int (Int32.ofNat q))] [] ((I, L, R), 233, 0, 0) _
  refine f_iload_n (M := mX8_problem) 1 dX8_problem_0 rfl rfl ?_
  refine e_cS (M := mX8_problem) [_] 0 0 dX8_problem_1 pa_8164 cc_8164 rfl rfl rfl rfl rfl (x_kk rfl) (x_kk rfl) rfl (c_X8_isBidder) rfl ?_
  refine e_cS (M := mX8_problem) [] 1 6 dX8_problem_4 pa_8103 cc_8103 rfl rfl rfl rfl rfl (x_kk rfl) (x_kk rfl) rfl (c_X8_requireExisting (x_bn (ib_ok kn_7 (by omega) (by omega)))) rfl ?_
  refine f_aload_n (M := mX8_problem) 8 dX8_problem_7 rfl rfl ?_
  refine e_getR (M := mX8_problem) dX8_problem_8 fl_8026 (x_kk rfl) (x_kk rfl) rfl hS ?_
  refine e_cV (M := mX8_problem) [_] 1 6 dX8_problem_11 pa_8195 pb_8195 cc_8195 rfl rfl rfl rfl rfl (x_kk rfl) (x_kk rfl) (x_rcvOK (sl_lt hβ 0 rfl) (sl_s hβ 0 rfl rfl) rfl) (c_X6_hasOpenBids hR hβ) rfl ?_
  refine e_cS (M := mX8_problem) [] 2 12 dX8_problem_14 pa_8037 cc_8037 rfl rfl rfl rfl rfl (x_kk rfl) (x_kk rfl) rfl (c_X8_requireState (x_bn h)) rfl ?_
  refine f_aload_n (M := mX8_problem) 18 dX8_problem_17 rfl rfl ?_
  refine e_getR (M := mX8_problem) dX8_problem_18 fl_8026 (x_kk rfl) (x_kk rfl) rfl hS ?_
  refine e_getR (M := mX8_problem) dX8_problem_21 fl_8148 (x_kk rfl) (sl_lt hβ 0 rfl) (sl_s hβ 0 rfl rfl) (wf_6_3 hR hβ) ?_
  refine f_iload_n (M := mX8_problem) 25 dX8_problem_24 rfl rfl ?_
  refine f_aload_n (M := mX8_problem) 26 dX8_problem_25 rfl rfl ?_
  refine e_getR (M := mX8_problem) dX8_problem_26 fl_8026 (x_kk rfl) (x_kk rfl) rfl hS ?_
  refine e_getR (M := mX8_problem) dX8_problem_29 fl_8083 (x_kk rfl) (sl_lt hβ 0 rfl) (sl_s hβ 0 rfl rfl) (wf_6_1 hR hβ) ?_
  refine e_cV (M := mX8_problem) [_] 2 12 dX8_problem_32 pa_8198 pb_8198 cc_8198 rfl rfl rfl rfl rfl (x_kk rfl) (x_kk rfl) (x_rcvOK (sl_lt hβ 7 rfl) (sl_s hβ 7 rfl rfl) rfl) (c_X0_problemOf hR hβ hq hNs hn) rfl ?_
  refine e_ri (M := mX8_problem) dX8_problem_35 rfl (x_kk rfl) (x_kk rfl) ?_
  rfl
theorem c_X8_value_x2 (hR : x_wf R) {β : Nat} (hβ : x_sl β) (hS : R 0 2 = some β) {v : Int32} (h : ¬ (0 ≤ v ∧ v ≤ 7)) : x_Cv X mX8_value [.ref 0, .int v] (I, L, R) 233 (.inr 2, (I, L, R), 233) := by
  show x_Ev X mX8_value 0 [some (.ref 0), some (.int v)] [] ((I, L, R), 233, 0, 0) _
  refine f_iload_n (M := mX8_value) 1 dX8_value_0 rfl rfl ?_
  refine e_cS (M := mX8_value) [_] 0 0 dX8_value_1 pa_8164 cc_8164 rfl rfl rfl rfl rfl (x_kk rfl) (x_kk rfl) rfl (c_X8_isBidder) rfl ?_
  exact e_cSX (M := mX8_value) 1 6 dX8_value_4 pa_8103 cc_8103 rfl rfl rfl rfl rfl (x_kk rfl) (x_kk rfl) rfl (c_X8_requireExisting_x (x_b0 h)) rfl
theorem c_X8_value_x0 (hR : x_wf R) {β : Nat} (hβ : x_sl β) (hS : R 0 2 = some β) {q : Nat} (hq : q < 8) (h : ¬ (¬ I β 0 = 0 ∧ ¬ (I β 0 = 1 ∨ I β 0 = 6))) : x_Cv X mX8_value [.ref 0, .int (Int32.ofNat q)] (I, L, R) 233 (.inr 0, (I, L, R), 233) := by
  show x_Ev X mX8_value 0 [some (.ref 0), some (.int (Int32.ofNat q))] [] ((I, L, R), 233, 0, 0) _
  refine f_iload_n (M := mX8_value) 1 dX8_value_0 rfl rfl ?_
  refine e_cS (M := mX8_value) [_] 0 0 dX8_value_1 pa_8164 cc_8164 rfl rfl rfl rfl rfl (x_kk rfl) (x_kk rfl) rfl (c_X8_isBidder) rfl ?_
  refine e_cS (M := mX8_value) [] 1 6 dX8_value_4 pa_8103 cc_8103 rfl rfl rfl rfl rfl (x_kk rfl) (x_kk rfl) rfl (c_X8_requireExisting (x_bn (ib_ok kn_7 (by omega) (by omega)))) rfl ?_
  refine f_aload_n (M := mX8_value) 8 dX8_value_7 rfl rfl ?_
  refine e_getR (M := mX8_value) dX8_value_8 fl_8026 (x_kk rfl) (x_kk rfl) rfl hS ?_
  refine e_cV (M := mX8_value) [_] 1 6 dX8_value_11 pa_8195 pb_8195 cc_8195 rfl rfl rfl rfl rfl (x_kk rfl) (x_kk rfl) (x_rcvOK (sl_lt hβ 0 rfl) (sl_s hβ 0 rfl rfl) rfl) (c_X6_hasOpenBids hR hβ) rfl ?_
  exact e_cSX (M := mX8_value) 2 12 dX8_value_14 pa_8037 cc_8037 rfl rfl rfl rfl rfl (x_kk rfl) (x_kk rfl) rfl (c_X8_requireState_x (x_b0 h)) rfl
theorem c_X8_value_ok (hR : x_wf R) {β : Nat} (hβ : x_sl β) (hS : R 0 2 = some β) {q : Nat} (hq : q < 8) {Ns : Nat} (hNs : Ns ≤ 6) (hn : I (β + 1) 0 = Int32.ofNat Ns) (h : (¬ I β 0 = 0 ∧ ¬ (I β 0 = 1 ∨ I β 0 = 6))) : x_Cv X mX8_value [.ref 0, .int (Int32.ofNat q)] (I, L, R) 233 (.inl (some (.long (cv_val (I (β + 9)) (I (β + 8)) q 6))), (I, L, R), 233) := by
  show x_Ev X mX8_value 0 [some (.ref 0), some (.int (Int32.ofNat q))] [] ((I, L, R), 233, 0, 0) _
  refine f_iload_n (M := mX8_value) 1 dX8_value_0 rfl rfl ?_
  refine e_cS (M := mX8_value) [_] 0 0 dX8_value_1 pa_8164 cc_8164 rfl rfl rfl rfl rfl (x_kk rfl) (x_kk rfl) rfl (c_X8_isBidder) rfl ?_
  refine e_cS (M := mX8_value) [] 1 6 dX8_value_4 pa_8103 cc_8103 rfl rfl rfl rfl rfl (x_kk rfl) (x_kk rfl) rfl (c_X8_requireExisting (x_bn (ib_ok kn_7 (by omega) (by omega)))) rfl ?_
  refine f_aload_n (M := mX8_value) 8 dX8_value_7 rfl rfl ?_
  refine e_getR (M := mX8_value) dX8_value_8 fl_8026 (x_kk rfl) (x_kk rfl) rfl hS ?_
  refine e_cV (M := mX8_value) [_] 1 6 dX8_value_11 pa_8195 pb_8195 cc_8195 rfl rfl rfl rfl rfl (x_kk rfl) (x_kk rfl) (x_rcvOK (sl_lt hβ 0 rfl) (sl_s hβ 0 rfl rfl) rfl) (c_X6_hasOpenBids hR hβ) rfl ?_
  refine e_cS (M := mX8_value) [] 2 12 dX8_value_14 pa_8037 cc_8037 rfl rfl rfl rfl rfl (x_kk rfl) (x_kk rfl) rfl (c_X8_requireState (x_bn h)) rfl ?_
  refine f_aload_n (M := mX8_value) 18 dX8_value_17 rfl rfl ?_
  refine e_getR (M := mX8_value) dX8_value_18 fl_8026 (x_kk rfl) (x_kk rfl) rfl hS ?_
  refine e_getR (M := mX8_value) dX8_value_21 fl_8148 (x_kk rfl) (sl_lt hβ 0 rfl) (sl_s hβ 0 rfl rfl) (wf_6_3 hR hβ) ?_
  refine f_iload_n (M := mX8_value) 25 dX8_value_24 rfl rfl ?_
  refine e_cV (M := mX8_value) [_] 2 12 dX8_value_25 pa_8202 pb_8202 cc_8202 rfl rfl rfl rfl rfl (x_kk rfl) (x_kk rfl) (x_rcvOK (sl_lt hβ 7 rfl) (sl_s hβ 7 rfl rfl) rfl) (c_X0_valueOf hR hβ hq) rfl ?_
  refine e_rl (M := mX8_value) dX8_value_28 rfl (x_kk rfl) (x_kk rfl) ?_
  rfl
theorem c_X8_net_x2 (hR : x_wf R) {β : Nat} (hβ : x_sl β) (hS : R 0 2 = some β) {v : Int32} (h : ¬ (0 ≤ v ∧ v ≤ I (β + 17) 0 - 1)) : x_Cv X mX8_net [.ref 0, .int v] (I, L, R) 233 (.inr 2, (I, L, R), 233) := by
  show x_Ev X mX8_net 0 [some (.ref 0), some (.int v)] [] ((I, L, R), 233, 0, 0) _
  refine f_aload_n (M := mX8_net) 1 dX8_net_0 rfl rfl ?_
  refine f_iload_n (M := mX8_net) 2 dX8_net_1 rfl rfl ?_
  refine e_cV (M := mX8_net) [_] 0 0 dX8_net_2 pa_8262 pb_8262 cc_8262 rfl rfl rfl rfl rfl (x_kk rfl) (x_kk rfl) rfl (c_X8_isLoad hR hβ hS) rfl ?_
  exact e_cSX (M := mX8_net) 1 6 dX8_net_5 pa_8103 cc_8103 rfl rfl rfl rfl rfl (x_kk rfl) (x_kk rfl) rfl (c_X8_requireExisting_x (x_b0 h)) rfl
theorem c_X8_net_ok (hR : x_wf R) {β : Nat} (hβ : x_sl β) (hS : R 0 2 = some β) {Nl : Nat} (hNl : Nl ≤ 60) (hl : I (β + 17) 0 = Int32.ofNat Nl) {q : Nat} (hq : q < Nl) : x_Cv X mX8_net [.ref 0, .int (Int32.ofNat q)] (I, L, R) 233 (.inl (some (.int (I (β + 20) q))), (I, L, R), 233) := by
  show x_Ev X mX8_net 0 [some (.ref 0), some (.int (Int32.ofNat q))] [] ((I, L, R), 233, 0, 0) _
  refine f_aload_n (M := mX8_net) 1 dX8_net_0 rfl rfl ?_
  refine f_iload_n (M := mX8_net) 2 dX8_net_1 rfl rfl ?_
  refine e_cV (M := mX8_net) [_] 0 0 dX8_net_2 pa_8262 pb_8262 cc_8262 rfl rfl rfl rfl rfl (x_kk rfl) (x_kk rfl) rfl (c_X8_isLoad hR hβ hS) rfl ?_
  refine e_cS (M := mX8_net) [] 1 6 dX8_net_5 pa_8103 cc_8103 rfl rfl rfl rfl rfl (x_kk rfl) (x_kk rfl) rfl (c_X8_requireExisting (x_bn (in_ok hl (by omega) hq))) rfl ?_
  refine f_aload_n (M := mX8_net) 9 dX8_net_8 rfl rfl ?_
  refine e_getR (M := mX8_net) dX8_net_9 fl_8026 (x_kk rfl) (x_kk rfl) rfl hS ?_
  refine e_getR (M := mX8_net) dX8_net_12 fl_8245 (x_kk rfl) (sl_lt hβ 0 rfl) (sl_s hβ 0 rfl rfl) (wf_6_5 hR hβ) ?_
  refine e_getR (M := mX8_net) dX8_net_15 fl_8271 (x_kk rfl) (sl_lt hβ 17 rfl) (sl_s hβ 17 rfl rfl) (wf_4_5 hR hβ) ?_
  refine f_iload_n (M := mX8_net) 19 dX8_net_18 rfl rfl ?_
  refine e_ild (M := mX8_net) (w := 60) (j := q) dX8_net_19 (sl_lt hβ 20 rfl) (sl_shp hβ 20 rfl) rfl (by omega) (by omega) ?_
  refine e_ri (M := mX8_net) dX8_net_20 rfl (x_kk rfl) (x_kk rfl) ?_
  rfl
theorem c_X8_rate_x2a (hR : x_wf R) {β : Nat} (hβ : x_sl β) (hS : R 0 2 = some β) {v : Int32} (h1 : ¬ (0 ≤ v ∧ v ≤ I (β + 1) 0 - 1)) {w : Int32} : x_Cv X mX8_rate [.ref 0, .int v, .int w] (I, L, R) 233 (.inr 2, (I, L, R), 233) := by
  show x_Ev X mX8_rate 0 [some (.ref 0), some (.int v), some (.int w)] [] ((I, L, R), 233, 0, 0) _
  refine f_aload_n (M := mX8_rate) 1 dX8_rate_0 rfl rfl ?_
  refine f_iload_n (M := mX8_rate) 2 dX8_rate_1 rfl rfl ?_
  refine e_cV (M := mX8_rate) [_] 0 0 dX8_rate_2 pa_8161 pb_8161 cc_8161 rfl rfl rfl rfl rfl (x_kk rfl) (x_kk rfl) rfl (c_X8_isSpecies hR hβ hS) rfl ?_
  refine e_if_eqT (M := mX8_rate) 19 dX8_rate_5 rfl (x_b0 h1) ?_
  refine f_iconst (M := mX8_rate) 20 dX8_rate_19 ki_0 rfl ?_
  exact e_cSX (M := mX8_rate) 1 6 dX8_rate_20 pa_8103 cc_8103 rfl rfl rfl rfl rfl (x_kk rfl) (x_kk rfl) rfl (c_X8_requireExisting_x rfl) rfl
theorem c_X8_rate_x2b (hR : x_wf R) {β : Nat} (hβ : x_sl β) (hS : R 0 2 = some β) {Ns s : Nat} (hNs : Ns ≤ 6) (hn : I (β + 1) 0 = Int32.ofNat Ns) (hs : s < Ns) {w : Int32} (h1 : ¬ (0 ≤ w ∧ w ≤ 11)) : x_Cv X mX8_rate [.ref 0, .int (Int32.ofNat s), .int w] (I, L, R) 233 (.inr 2, (I, L, R), 233) := by
  show x_Ev X mX8_rate 0 [some (.ref 0), some (.int (Int32.ofNat s)), some (.int w)] [] ((I, L, R), 233, 0, 0) _
  refine f_aload_n (M := mX8_rate) 1 dX8_rate_0 rfl rfl ?_
  refine f_iload_n (M := mX8_rate) 2 dX8_rate_1 rfl rfl ?_
  refine e_cV (M := mX8_rate) [_] 0 0 dX8_rate_2 pa_8161 pb_8161 cc_8161 rfl rfl rfl rfl rfl (x_kk rfl) (x_kk rfl) rfl (c_X8_isSpecies hR hβ hS) rfl ?_
  refine e_if_eqF (M := mX8_rate) 19 dX8_rate_5 rfl (x_bn (in_ok hn (by omega) hs)) ?_
  refine f_iload_n (M := mX8_rate) 9 dX8_rate_8 rfl rfl ?_
  refine e_cS (M := mX8_rate) [_] 0 0 dX8_rate_9 pa_8224 cc_8224 rfl rfl rfl rfl rfl (x_kk rfl) (x_kk rfl) rfl (c_X8_isQuarter) rfl ?_
  refine e_if_eqT (M := mX8_rate) 19 dX8_rate_12 rfl (x_b0 h1) ?_
  refine f_iconst (M := mX8_rate) 20 dX8_rate_19 ki_0 rfl ?_
  exact e_cSX (M := mX8_rate) 1 6 dX8_rate_20 pa_8103 cc_8103 rfl rfl rfl rfl rfl (x_kk rfl) (x_kk rfl) rfl (c_X8_requireExisting_x rfl) rfl
theorem c_X8_rate_x0 (hR : x_wf R) {β : Nat} (hβ : x_sl β) (hS : R 0 2 = some β) {Ns s : Nat} (hNs : Ns ≤ 6) (hn : I (β + 1) 0 = Int32.ofNat Ns) (hs : s < Ns) {Q : Nat} (hQ : Q < 12) (h2 : ¬ 3 ≤ I β 0) : x_Cv X mX8_rate [.ref 0, .int (Int32.ofNat s), .int (Int32.ofNat Q)] (I, L, R) 233 (.inr 0, (I, L, R), 233) := by
  show x_Ev X mX8_rate 0 [some (.ref 0), some (.int (Int32.ofNat s)), some (.int (Int32.ofNat Q))] [] ((I, L, R), 233, 0, 0) _
  refine f_aload_n (M := mX8_rate) 1 dX8_rate_0 rfl rfl ?_
  refine f_iload_n (M := mX8_rate) 2 dX8_rate_1 rfl rfl ?_
  refine e_cV (M := mX8_rate) [_] 0 0 dX8_rate_2 pa_8161 pb_8161 cc_8161 rfl rfl rfl rfl rfl (x_kk rfl) (x_kk rfl) rfl (c_X8_isSpecies hR hβ hS) rfl ?_
  refine e_if_eqF (M := mX8_rate) 19 dX8_rate_5 rfl (x_bn (in_ok hn (by omega) hs)) ?_
  refine f_iload_n (M := mX8_rate) 9 dX8_rate_8 rfl rfl ?_
  refine e_cS (M := mX8_rate) [_] 0 0 dX8_rate_9 pa_8224 cc_8224 rfl rfl rfl rfl rfl (x_kk rfl) (x_kk rfl) rfl (c_X8_isQuarter) rfl ?_
  refine e_if_eqF (M := mX8_rate) 19 dX8_rate_12 rfl (x_bn (ib_ok kn_11 (by omega) (by omega))) ?_
  refine f_iconst (M := mX8_rate) 16 dX8_rate_15 ki_1 rfl ?_
  refine f_goto (M := mX8_rate) 20 dX8_rate_16 rfl ?_
  refine e_cS (M := mX8_rate) [] 1 6 dX8_rate_20 pa_8103 cc_8103 rfl rfl rfl rfl rfl (x_kk rfl) (x_kk rfl) rfl (c_X8_requireExisting (by decide)) rfl ?_
  refine f_aload_n (M := mX8_rate) 24 dX8_rate_23 rfl rfl ?_
  refine e_getR (M := mX8_rate) dX8_rate_24 fl_8026 (x_kk rfl) (x_kk rfl) rfl hS ?_
  refine e_cV (M := mX8_rate) [_] 1 6 dX8_rate_27 pa_8236 pb_8236 cc_8236 rfl rfl rfl rfl rfl (x_kk rfl) (x_kk rfl) (x_rcvOK (sl_lt hβ 0 rfl) (sl_s hβ 0 rfl rfl) rfl) (c_X6_hasContract hR hβ) rfl ?_
  exact e_cSX (M := mX8_rate) 2 12 dX8_rate_30 pa_8037 cc_8037 rfl rfl rfl rfl rfl (x_kk rfl) (x_kk rfl) rfl (c_X8_requireState_x (x_b0 h2)) rfl
theorem c_X8_rate_ok (hR : x_wf R) {β : Nat} (hβ : x_sl β) (hS : R 0 2 = some β) {Ns s : Nat} (hNs : Ns ≤ 6) (hn : I (β + 1) 0 = Int32.ofNat Ns) (hs : s < Ns) {Q : Nat} (hQ : Q < 12) (h2 : 3 ≤ I β 0) : x_Cv X mX8_rate [.ref 0, .int (Int32.ofNat s), .int (Int32.ofNat Q)] (I, L, R) 233 (.inl (some (.int (cv_rate I β s Q))), (I, L, R), 233) := by
  show x_Ev X mX8_rate 0 [some (.ref 0), some (.int (Int32.ofNat s)), some (.int (Int32.ofNat Q))] [] ((I, L, R), 233, 0, 0) _
  refine f_aload_n (M := mX8_rate) 1 dX8_rate_0 rfl rfl ?_
  refine f_iload_n (M := mX8_rate) 2 dX8_rate_1 rfl rfl ?_
  refine e_cV (M := mX8_rate) [_] 0 0 dX8_rate_2 pa_8161 pb_8161 cc_8161 rfl rfl rfl rfl rfl (x_kk rfl) (x_kk rfl) rfl (c_X8_isSpecies hR hβ hS) rfl ?_
  refine e_if_eqF (M := mX8_rate) 19 dX8_rate_5 rfl (x_bn (in_ok hn (by omega) hs)) ?_
  refine f_iload_n (M := mX8_rate) 9 dX8_rate_8 rfl rfl ?_
  refine e_cS (M := mX8_rate) [_] 0 0 dX8_rate_9 pa_8224 cc_8224 rfl rfl rfl rfl rfl (x_kk rfl) (x_kk rfl) rfl (c_X8_isQuarter) rfl ?_
  refine e_if_eqF (M := mX8_rate) 19 dX8_rate_12 rfl (x_bn (ib_ok kn_11 (by omega) (by omega))) ?_
  refine f_iconst (M := mX8_rate) 16 dX8_rate_15 ki_1 rfl ?_
  refine f_goto (M := mX8_rate) 20 dX8_rate_16 rfl ?_
  refine e_cS (M := mX8_rate) [] 1 6 dX8_rate_20 pa_8103 cc_8103 rfl rfl rfl rfl rfl (x_kk rfl) (x_kk rfl) rfl (c_X8_requireExisting (by decide)) rfl ?_
  refine f_aload_n (M := mX8_rate) 24 dX8_rate_23 rfl rfl ?_
  refine e_getR (M := mX8_rate) dX8_rate_24 fl_8026 (x_kk rfl) (x_kk rfl) rfl hS ?_
  refine e_cV (M := mX8_rate) [_] 1 6 dX8_rate_27 pa_8236 pb_8236 cc_8236 rfl rfl rfl rfl rfl (x_kk rfl) (x_kk rfl) (x_rcvOK (sl_lt hβ 0 rfl) (sl_s hβ 0 rfl rfl) rfl) (c_X6_hasContract hR hβ) rfl ?_
  refine e_cS (M := mX8_rate) [] 2 12 dX8_rate_30 pa_8037 cc_8037 rfl rfl rfl rfl rfl (x_kk rfl) (x_kk rfl) rfl (c_X8_requireState (x_bn h2)) rfl ?_
  refine f_aload_n (M := mX8_rate) 34 dX8_rate_33 rfl rfl ?_
  refine e_getR (M := mX8_rate) dX8_rate_34 fl_8026 (x_kk rfl) (x_kk rfl) rfl hS ?_
  refine e_getR (M := mX8_rate) dX8_rate_37 fl_8227 (x_kk rfl) (sl_lt hβ 0 rfl) (sl_s hβ 0 rfl rfl) (wf_6_4 hR hβ) ?_
  refine f_iload_n (M := mX8_rate) 41 dX8_rate_40 rfl rfl ?_
  refine f_iload_n (M := mX8_rate) 42 dX8_rate_41 rfl rfl ?_
  refine f_aload_n (M := mX8_rate) 43 dX8_rate_42 rfl rfl ?_
  refine e_getR (M := mX8_rate) dX8_rate_43 fl_8026 (x_kk rfl) (x_kk rfl) rfl hS ?_
  refine e_getR (M := mX8_rate) dX8_rate_46 fl_8083 (x_kk rfl) (sl_lt hβ 0 rfl) (sl_s hβ 0 rfl rfl) (wf_6_1 hR hβ) ?_
  refine e_cV (M := mX8_rate) [_] 2 12 dX8_rate_49 pa_8239 pb_8239 cc_8239 rfl rfl rfl rfl rfl (x_kk rfl) (x_kk rfl) (x_rcvOK (sl_lt hβ 12 rfl) (sl_s hβ 12 rfl rfl) rfl) (c_X1_adjustedRate hR hβ (by omega) hQ) rfl ?_
  refine e_ri (M := mX8_rate) dX8_rate_52 rfl (x_kk rfl) (x_kk rfl) ?_
  rfl
end

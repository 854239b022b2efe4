/-! ===== the class: charge (laid by wip/whole/src/c11.py) ===== -/
section
variable {X : x_X} {I : Nat → Nat → Int32} {L : Nat → Nat → Int64} {R : Nat → Nat → Option Nat}
theorem c_X8_charge_x2 (hR : x_wf R) {β : Nat} (hβ : x_sl β) (hS : R 0 2 = some β) {v : Int32} (h1 : ¬ (0 ≤ v ∧ v ≤ I (β + 12) 6)) : x_Cv X mX8_charge [.ref 0, .int v] (I, L, R) 233 (.inr 2, (I, L, R), 233) := by
  show x_Ev X mX8_charge 0 [some (.ref 0), some (.int v)] [] ((I, L, R), 233, 0, 0) _
  refine f_iload_n (M := mX8_charge) 1 dX8_charge_0 rfl rfl ?_
  refine f_iconst (M := mX8_charge) 2 dX8_charge_1 ki_0 rfl ?_
  refine f_aload_n (M := mX8_charge) 3 dX8_charge_2 rfl rfl ?_
  refine e_getR (M := mX8_charge) dX8_charge_3 fl_8026 (x_kk rfl) (x_kk rfl) rfl hS ?_
  refine e_getR (M := mX8_charge) dX8_charge_6 fl_8227 (x_kk rfl) (sl_lt hβ 0 rfl) (sl_s hβ 0 rfl rfl) (wf_6_4 hR hβ) ?_
  refine e_getI (M := mX8_charge) dX8_charge_9 fl_8254 (x_kk rfl) (sl_lt hβ 12 rfl) (sl_s hβ 12 rfl rfl) ?_
  refine e_cS (M := mX8_charge) [_] 0 0 dX8_charge_12 pa_8049 cc_8049 rfl rfl rfl rfl rfl (x_kk rfl) (x_kk rfl) rfl (c_X8_isIn) rfl ?_
  exact e_cSX (M := mX8_charge) 1 6 dX8_charge_15 pa_8103 cc_8103 rfl rfl rfl rfl rfl (x_kk rfl) (x_kk rfl) rfl (c_X8_requireExisting_x (x_b0 h1)) rfl
theorem c_X8_charge_x0 (hR : x_wf R) {β : Nat} (hβ : x_sl β) (hS : R 0 2 = some β) {Nm m : Nat} (hNm : Nm < 36) (hmm : I (β + 12) 6 = Int32.ofNat Nm) (hm : m ≤ Nm) (h2 : ¬ 3 ≤ I β 0) : x_Cv X mX8_charge [.ref 0, .int (Int32.ofNat m)] (I, L, R) 233 (.inr 0, (I, L, R), 233) := by
  show x_Ev X mX8_charge 0 [some (.ref 0), some (.int (Int32.ofNat m))] [] ((I, L, R), 233, 0, 0) _
  refine f_iload_n (M := mX8_charge) 1 dX8_charge_0 rfl rfl ?_
  refine f_iconst (M := mX8_charge) 2 dX8_charge_1 ki_0 rfl ?_
  refine f_aload_n (M := mX8_charge) 3 dX8_charge_2 rfl rfl ?_
  refine e_getR (M := mX8_charge) dX8_charge_3 fl_8026 (x_kk rfl) (x_kk rfl) rfl hS ?_
  refine e_getR (M := mX8_charge) dX8_charge_6 fl_8227 (x_kk rfl) (sl_lt hβ 0 rfl) (sl_s hβ 0 rfl rfl) (wf_6_4 hR hβ) ?_
  refine e_getI (M := mX8_charge) dX8_charge_9 fl_8254 (x_kk rfl) (sl_lt hβ 12 rfl) (sl_s hβ 12 rfl rfl) ?_
  refine e_cS (M := mX8_charge) [_] 0 0 dX8_charge_12 pa_8049 cc_8049 rfl rfl rfl rfl rfl (x_kk rfl) (x_kk rfl) rfl (c_X8_isIn) rfl ?_
  refine e_cS (M := mX8_charge) [] 1 6 dX8_charge_15 pa_8103 cc_8103 rfl rfl rfl rfl rfl (x_kk rfl) (x_kk rfl) rfl (c_X8_requireExisting (x_bn (ib_ok hmm (by omega) hm))) rfl ?_
  refine f_aload_n (M := mX8_charge) 19 dX8_charge_18 rfl rfl ?_
  refine e_getR (M := mX8_charge) dX8_charge_19 fl_8026 (x_kk rfl) (x_kk rfl) rfl hS ?_
  refine e_cV (M := mX8_charge) [_] 1 6 dX8_charge_22 pa_8236 pb_8236 cc_8236 rfl rfl rfl rfl rfl (x_kk rfl) (x_kk rfl) (x_rcvOK (sl_lt hβ 0 rfl) (sl_s hβ 0 rfl rfl) rfl) (c_X6_hasContract hR hβ) rfl ?_
  exact e_cSX (M := mX8_charge) 2 12 dX8_charge_25 pa_8037 cc_8037 rfl rfl rfl rfl rfl (x_kk rfl) (x_kk rfl) rfl (c_X8_requireState_x (x_b0 h2)) rfl
theorem c_X8_charge_ok (hR : x_wf R) {β : Nat} (hβ : x_sl β) (hS : R 0 2 = some β) {Nm m : Nat} (hNm : Nm < 36) (hmm : I (β + 12) 6 = Int32.ofNat Nm) (hm : m ≤ Nm) {Nl : Nat} (hNl : Nl ≤ 60) (hl : I (β + 17) 0 = Int32.ofNat Nl) {Ns : Nat} (hNs : Ns ≤ 6) (hn : I (β + 1) 0 = Int32.ofNat Ns) (hB : ¬ cv_fB I β (I (β + 2) 4) * 10 = 0) (h2 : 3 ≤ I β 0) : x_Cv X mX8_charge [.ref 0, .int (Int32.ofNat m)] (I, L, R) 233 (.inl (some (.long (cv_chg I β m Nl Ns))), (I, L, R), 233) := by
  show x_Ev X mX8_charge 0 [some (.ref 0), some (.int (Int32.ofNat m))] [] ((I, L, R), 233, 0, 0) _
  refine f_iload_n (M := mX8_charge) 1 dX8_charge_0 rfl rfl ?_
  refine f_iconst (M := mX8_charge) 2 dX8_charge_1 ki_0 rfl ?_
  refine f_aload_n (M := mX8_charge) 3 dX8_charge_2 rfl rfl ?_
  refine e_getR (M := mX8_charge) dX8_charge_3 fl_8026 (x_kk rfl) (x_kk rfl) rfl hS ?_
  refine e_getR (M := mX8_charge) dX8_charge_6 fl_8227 (x_kk rfl) (sl_lt hβ 0 rfl) (sl_s hβ 0 rfl rfl) (wf_6_4 hR hβ) ?_
  refine e_getI (M := mX8_charge) dX8_charge_9 fl_8254 (x_kk rfl) (sl_lt hβ 12 rfl) (sl_s hβ 12 rfl rfl) ?_
  refine e_cS (M := mX8_charge) [_] 0 0 dX8_charge_12 pa_8049 cc_8049 rfl rfl rfl rfl rfl (x_kk rfl) (x_kk rfl) rfl (c_X8_isIn) rfl ?_
  refine e_cS (M := mX8_charge) [] 1 6 dX8_charge_15 pa_8103 cc_8103 rfl rfl rfl rfl rfl (x_kk rfl) (x_kk rfl) rfl (c_X8_requireExisting (x_bn (ib_ok hmm (by omega) hm))) rfl ?_
  refine f_aload_n (M := mX8_charge) 19 dX8_charge_18 rfl rfl ?_
  refine e_getR (M := mX8_charge) dX8_charge_19 fl_8026 (x_kk rfl) (x_kk rfl) rfl hS ?_
  refine e_cV (M := mX8_charge) [_] 1 6 dX8_charge_22 pa_8236 pb_8236 cc_8236 rfl rfl rfl rfl rfl (x_kk rfl) (x_kk rfl) (x_rcvOK (sl_lt hβ 0 rfl) (sl_s hβ 0 rfl rfl) rfl) (c_X6_hasContract hR hβ) rfl ?_
  refine e_cS (M := mX8_charge) [] 2 12 dX8_charge_25 pa_8037 cc_8037 rfl rfl rfl rfl rfl (x_kk rfl) (x_kk rfl) rfl (c_X8_requireState (x_bn h2)) rfl ?_
  refine f_aload_n (M := mX8_charge) 29 dX8_charge_28 rfl rfl ?_
  refine e_getR (M := mX8_charge) dX8_charge_29 fl_8026 (x_kk rfl) (x_kk rfl) rfl hS ?_
  refine f_iload_n (M := mX8_charge) 33 dX8_charge_32 rfl rfl ?_
  refine e_cV (M := mX8_charge) [_] 2 12 dX8_charge_33 pa_8302 pb_8302 cc_8302 rfl rfl rfl rfl rfl (x_kk rfl) (x_kk rfl) (x_rcvOK (sl_lt hβ 0 rfl) (sl_s hβ 0 rfl rfl) rfl) (c_X6_chargeOf hR hβ hNl hl hNs hn hB (by omega)) rfl ?_
  refine e_rl (M := mX8_charge) dX8_charge_36 rfl (x_kk rfl) (x_kk rfl) ?_
  rfl
end

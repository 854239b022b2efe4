/-! ===== the class: undo (laid by wip/whole/src/c8.py) ===== -/
section
variable {X : x_X} {I : Nat → Nat → Int32} {L : Nat → Nat → Int64} {R : Nat → Nat → Option Nat}
theorem c_X8_undo_x0 (hR : x_wf R) (h : I 3 2 ≤ 0) : x_Cv X mX8_undo [.ref 0] (I, L, R) 233 (.inr 0, (I, L, R), 233) := by
  show x_Ev X mX8_undo 0 [some (.ref 0)] [] ((I, L, R), 233, 0, 0) _
  refine f_aload_n (M := mX8_undo) 1 dX8_undo_0 rfl rfl ?_
  refine e_getR (M := mX8_undo) dX8_undo_1 fl_8019 (x_kk rfl) (x_kk rfl) rfl (wf_8_1 hR) ?_
  refine e_getI (M := mX8_undo) dX8_undo_4 fl_8328 (x_kk rfl) (x_kk rfl) rfl ?_
  refine e_if_leT (M := mX8_undo) 14 dX8_undo_7 rfl h ?_
  refine f_iconst (M := mX8_undo) 15 dX8_undo_14 ki_0 rfl ?_
  exact e_cSX (M := mX8_undo) 1 6 dX8_undo_15 pa_8037 cc_8037 rfl rfl rfl rfl rfl (x_kk rfl) (x_kk rfl) rfl (c_X8_requireState_x rfl) rfl
theorem c_X8_undo_ok (hR : x_wf R) {β γ ν : Nat} (hβ : x_sl β) (hS : R 0 2 = some β) (hν : ν < 8) (hw : I 3 1 = Int32.ofNat ν) (hg : R 4 ν = some γ) (h : ¬ I 3 2 ≤ 0) : x_Cv X mX8_undo [.ref 0] (I, L, R) 233 (.inl (some (.int (I 3 2 - 1))), (kp_2 (kp_1 I ((ν + 8 - 1) % 8)) (kp_1 I ((ν + 8 - 1) % 8) 3 2 - 1), L, va_up (va_up R 4 (va_up (R 4) ν (some β))) 0 (va_up ((va_up R 4 (va_up (R 4) ν (some β))) 0) 2 (some γ))), 233) := by
  show x_Ev X mX8_undo 0 [some (.ref 0)] [] ((I, L, R), 233, 0, 0) _
  refine f_aload_n (M := mX8_undo) 1 dX8_undo_0 rfl rfl ?_
  refine e_getR (M := mX8_undo) dX8_undo_1 fl_8019 (x_kk rfl) (x_kk rfl) rfl (wf_8_1 (R := R) hR) ?_
  refine e_getI (M := mX8_undo) dX8_undo_4 fl_8328 (x_kk rfl) (x_kk rfl) rfl ?_
  refine e_if_leF (M := mX8_undo) 14 dX8_undo_7 rfl h ?_
  refine f_iconst (M := mX8_undo) 11 dX8_undo_10 ki_1 rfl ?_
  refine f_goto (M := mX8_undo) 15 dX8_undo_11 rfl ?_
  refine e_cS (M := mX8_undo) [] 1 6 dX8_undo_15 pa_8037 cc_8037 rfl rfl rfl rfl rfl (x_kk rfl) (x_kk rfl) rfl (c_X8_requireState (by decide)) rfl ?_
  refine f_aload_n (M := mX8_undo) 19 dX8_undo_18 rfl rfl ?_
  refine f_aload_n (M := mX8_undo) 20 dX8_undo_19 rfl rfl ?_
  refine e_getR (M := mX8_undo) dX8_undo_20 fl_8019 (x_kk rfl) (x_kk rfl) rfl (wf_8_1 (R := R) hR) ?_
  refine f_aload_n (M := mX8_undo) 24 dX8_undo_23 rfl rfl ?_
  refine e_getR (M := mX8_undo) dX8_undo_24 fl_8026 (x_kk rfl) (x_kk rfl) rfl hS ?_
  refine e_cV (M := mX8_undo) [_, _] 1 6 dX8_undo_27 pa_8331 pb_8331 cc_8331 rfl rfl rfl rfl rfl (x_kk rfl) (x_kk rfl) rfl (c_X3_takeBack hR hβ hν hw hg) rfl ?_
  refine e_putR (M := mX8_undo) dX8_undo_30 fl_8026 (x_kk rfl) (x_kk rfl) rfl (fun q9 => Bool.noConfusion q9) ?_
  refine f_aload_n (M := mX8_undo) 34 dX8_undo_33 rfl rfl ?_
  refine e_getR (M := mX8_undo) dX8_undo_34 fl_8019 (x_kk rfl) (x_kk rfl) rfl (wf_8_1 (R := R) hR) ?_
  refine e_getI (M := mX8_undo) dX8_undo_37 fl_8328 (x_kk rfl) (x_kk rfl) rfl ?_
  refine e_ri (M := mX8_undo) dX8_undo_40 rfl (x_kk rfl) (x_kk rfl) ?_
  rfl
end

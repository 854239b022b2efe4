/-! ===== the history (laid by wip/whole/src/c7.py) ===== -/
section
variable {X : x_X} {I : Nat → Nat → Int32} {L : Nat → Nat → Int64} {R : Nat → Nat → Option Nat}
/-- the next place of the ring; the sale kept there -/
def kp_1 (I : Nat → Nat → Int32) (m : Nat) : Nat → Nat → Int32 := va_up I 3 (va_up (I 3) 1 (Int32.ofNat m))
def kp_2 (I : Nat → Nat → Int32) (x : Int32) : Nat → Nat → Int32 := va_up I 3 (va_up (I 3) 2 x)
def x_min (x y : Int32) : Int32 := if y < x then y else x
theorem c_X3_keep (hR : x_wf R) {β γ ν : Nat} (hβ : x_sl β) (hγ : x_sl γ) (hν : ν < 8) (hw : I 3 1 = Int32.ofNat ν) (hg : R 4 ((ν + 1) % 8) = some γ) : x_Cv X mX3_keep [.ref 3, .ref β] (I, L, R) 233 (.inl none, (kp_2 (cp6_I (kp_1 I ((ν + 1) % 8)) γ β) (x_min (cp6_I (kp_1 I ((ν + 1) % 8)) γ β 3 2 + 1) 8), cp6_L L γ β, R), 233) := by
  show x_Ev X mX3_keep 0 [some (.ref 3), some (.ref β)] [] ((I, L, R), 233, 0, 0) _
  refine f_aload_n (M := mX3_keep) 1 dX3_keep_0 rfl rfl ?_
  refine f_aload_n (M := mX3_keep) 2 dX3_keep_1 rfl rfl ?_
  refine e_getI (M := mX3_keep) dX3_keep_2 fl_3018 (x_kk rfl) (x_kk rfl) rfl ?_
  refine f_iconst (M := mX3_keep) 6 dX3_keep_5 ki_1 rfl ?_
  refine f_iadd (M := mX3_keep) 7 dX3_keep_6 rfl ?_
  refine f_bipush (M := mX3_keep) 9 dX3_keep_7 kb_8 rfl ?_
  refine e_irem (M := mX3_keep) dX3_keep_9 (by decide) ?_
  rw [show I 3 1 + 1 - (I 3 1 + 1) / 8 * 8 = Int32.ofNat ((ν + 1) % 8) from ix_rem (by omega) (by omega) (ix_add hw kn_1) kn_8]
  refine e_putI (M := mX3_keep) dX3_keep_10 fl_3018 (x_kk rfl) (x_kk rfl) rfl (fun q9 => Bool.noConfusion q9) ?_
  refine f_aload_n (M := mX3_keep) 14 dX3_keep_13 rfl rfl ?_
  refine e_getR (M := mX3_keep) dX3_keep_14 fl_3011 (x_kk rfl) (x_kk rfl) rfl (wf_3_0 hR) ?_
  refine f_aload_n (M := mX3_keep) 18 dX3_keep_17 rfl rfl ?_
  refine e_getI (M := mX3_keep) dX3_keep_18 fl_3018 (x_kk rfl) (x_kk rfl) rfl ?_
  refine e_ald (M := mX3_keep) (w := 8) (j := (ν + 1) % 8) dX3_keep_21 (x_kk rfl) rfl rfl (by omega) (by omega) hg ?_
  refine f_aload_n (M := mX3_keep) 23 dX3_keep_22 rfl rfl ?_
  refine e_cV (M := mX3_keep) [] 0 0 dX3_keep_23 pa_3022 pb_3022 cc_3022 rfl rfl rfl rfl rfl (x_kk rfl) (x_kk rfl) (x_rcvOK (sl_lt hγ 0 rfl) (sl_s hγ 0 rfl rfl) rfl) (c_X6_copyFrom hR hγ hβ) rfl ?_
  refine f_aload_n (M := mX3_keep) 27 dX3_keep_26 rfl rfl ?_
  refine f_aload_n (M := mX3_keep) 28 dX3_keep_27 rfl rfl ?_
  refine e_getI (M := mX3_keep) dX3_keep_28 fl_3026 (x_kk rfl) (x_kk rfl) rfl ?_
  refine f_iconst (M := mX3_keep) 32 dX3_keep_31 ki_1 rfl ?_
  refine f_iadd (M := mX3_keep) 33 dX3_keep_32 rfl ?_
  refine f_bipush (M := mX3_keep) 35 dX3_keep_33 kb_8 rfl ?_
  refine e_cS (M := mX3_keep) [_, _] 0 0 dX3_keep_35 pa_3029 cc_3029 rfl rfl rfl rfl rfl (x_kk rfl) (x_kk rfl) rfl (c_J9_min_7cf53) rfl ?_
  refine e_putI (M := mX3_keep) dX3_keep_38 fl_3026 (x_kk rfl) (x_kk rfl) rfl (fun q9 => Bool.noConfusion q9) ?_
  refine e_rv (M := mX3_keep) dX3_keep_41 rfl (x_kk rfl) (x_kk rfl) ?_
  rfl
theorem c_X3_takeBack (hR : x_wf R) {β γ ν : Nat} (hβ : x_sl β) (hν : ν < 8) (hw : I 3 1 = Int32.ofNat ν) (hg : R 4 ν = some γ) : x_Cv X mX3_takeBack [.ref 3, .ref β] (I, L, R) 233 (.inl (some (.ref γ)), (kp_2 (kp_1 I ((ν + 8 - 1) % 8)) (kp_1 I ((ν + 8 - 1) % 8) 3 2 - 1), L, va_up R 4 (va_up (R 4) ν (some β))), 233) := by
  show x_Ev X mX3_takeBack 0 [some (.ref 3), some (.ref β), none] [] ((I, L, R), 233, 0, 0) _
  refine f_aload_n (M := mX3_takeBack) 1 dX3_takeBack_0 rfl rfl ?_
  refine e_getR (M := mX3_takeBack) dX3_takeBack_1 fl_3011 (x_kk rfl) (x_kk rfl) rfl (wf_3_0 hR) ?_
  refine f_aload_n (M := mX3_takeBack) 5 dX3_takeBack_4 rfl rfl ?_
  refine e_getI (M := mX3_takeBack) dX3_takeBack_5 fl_3018 (x_kk rfl) (x_kk rfl) rfl ?_
  refine e_ald (M := mX3_takeBack) (w := 8) (j := ν) dX3_takeBack_8 (x_kk rfl) rfl hw (by omega) (by omega) hg ?_
  refine f_astore_n (M := mX3_takeBack) (ls' := [_, _, _]) 10 dX3_takeBack_9 rfl rfl rfl ?_
  refine f_aload_n (M := mX3_takeBack) 11 dX3_takeBack_10 rfl rfl ?_
  refine e_getR (M := mX3_takeBack) dX3_takeBack_11 fl_3011 (x_kk rfl) (x_kk rfl) rfl (wf_3_0 hR) ?_
  refine f_aload_n (M := mX3_takeBack) 15 dX3_takeBack_14 rfl rfl ?_
  refine e_getI (M := mX3_takeBack) dX3_takeBack_15 fl_3018 (x_kk rfl) (x_kk rfl) rfl ?_
  refine f_aload_n (M := mX3_takeBack) 19 dX3_takeBack_18 rfl rfl ?_
  refine e_ast (M := mX3_takeBack) (w := 8) (j := ν) dX3_takeBack_19 (x_kk rfl) rfl hw (by omega) (by omega) (sl_lt hβ 0 rfl) (sl_s hβ 0 rfl rfl) ?_
  refine f_aload_n (M := mX3_takeBack) 21 dX3_takeBack_20 rfl rfl ?_
  refine f_aload_n (M := mX3_takeBack) 22 dX3_takeBack_21 rfl rfl ?_
  refine e_getI (M := mX3_takeBack) dX3_takeBack_22 fl_3018 (x_kk rfl) (x_kk rfl) rfl ?_
  refine f_bipush (M := mX3_takeBack) 27 dX3_takeBack_25 kb_8 rfl ?_
  refine f_iadd (M := mX3_takeBack) 28 dX3_takeBack_27 rfl ?_
  refine f_iconst (M := mX3_takeBack) 29 dX3_takeBack_28 ki_1 rfl ?_
  refine f_isub (M := mX3_takeBack) 30 dX3_takeBack_29 rfl ?_
  refine f_bipush (M := mX3_takeBack) 32 dX3_takeBack_30 kb_8 rfl ?_
  refine e_irem (M := mX3_takeBack) dX3_takeBack_32 (by decide) ?_
  rw [show I 3 1 + 8 - 1 - (I 3 1 + 8 - 1) / 8 * 8 = Int32.ofNat ((ν + 8 - 1) % 8) from ix_rem (by omega) (by omega) (ix_sub (ix_add hw kn_8) kn_1 (by omega)) kn_8]
  refine e_putI (M := mX3_takeBack) dX3_takeBack_33 fl_3018 (x_kk rfl) (x_kk rfl) rfl (fun q9 => Bool.noConfusion q9) ?_
  refine f_aload_n (M := mX3_takeBack) 37 dX3_takeBack_36 rfl rfl ?_
  refine f_dup (M := mX3_takeBack) 38 dX3_takeBack_37 rfl rfl ?_
  refine e_getI (M := mX3_takeBack) dX3_takeBack_38 fl_3026 (x_kk rfl) (x_kk rfl) rfl ?_
  refine f_iconst (M := mX3_takeBack) 42 dX3_takeBack_41 ki_1 rfl ?_
  refine f_isub (M := mX3_takeBack) 43 dX3_takeBack_42 rfl ?_
  refine e_putI (M := mX3_takeBack) dX3_takeBack_43 fl_3026 (x_kk rfl) (x_kk rfl) rfl (fun q9 => Bool.noConfusion q9) ?_
  refine f_aload_n (M := mX3_takeBack) 47 dX3_takeBack_46 rfl rfl ?_
  refine e_ret (M := mX3_takeBack) dX3_takeBack_47 rfl rfl ?_
  rfl
end

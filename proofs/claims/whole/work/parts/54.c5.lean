/-! ===== the class: copies (laid by wip/whole/src/c5.py) ===== -/
section
variable {X : x_X} {I : Nat → Nat → Int32} {L : Nat → Nat → Int64} {R : Nat → Nat → Option Nat}
theorem c_X8_copy {p q w : Nat} (hp : p < 233) (hps : x_shp p = (1, w)) (hq : q < 233) (hqs : x_shp q = (1, w)) (hw : w < 5000) : x_Cv X mX8_copy [.ref p, .ref q] (I, L, R) 233 (.inl none, (va_up I q (va_cpy (I p) (I q) 0 0 w), L, R), 233) := by
  show x_Ev X mX8_copy 0 [some (.ref p), some (.ref q)] [] ((I, L, R), 233, 0, 0) _
  refine f_aload_n (M := mX8_copy) 1 dX8_copy_0 rfl rfl ?_
  refine f_iconst (M := mX8_copy) 2 dX8_copy_1 ki_0 rfl ?_
  refine f_aload_n (M := mX8_copy) 3 dX8_copy_2 rfl rfl ?_
  refine f_iconst (M := mX8_copy) 4 dX8_copy_3 ki_0 rfl ?_
  refine f_aload_n (M := mX8_copy) 5 dX8_copy_4 rfl rfl ?_
  refine e_len (M := mX8_copy) (w := w) (t := 1) dX8_copy_5 hp hps rfl ?_
  refine f_aload_n (M := mX8_copy) 7 dX8_copy_6 rfl rfl ?_
  refine e_len (M := mX8_copy) (w := w) (t := 1) dX8_copy_7 hq hqs rfl ?_
  refine e_cS (M := mX8_copy) [_, _, _, _, _] 0 0 dX8_copy_8 pa_8093 cc_8093 rfl rfl rfl rfl rfl (x_kk rfl) (x_kk rfl) rfl (c_J9_min_7cf53) rfl ?_
  rw [ite_self]
  refine e_cpyI (M := mX8_copy) (wb := w) (m := w) (s := 0) (d := 0) dX8_copy_11 ct_8361 (x_kk rfl) (x_arr_w hp hps) hq hqs kn_0 kn_0 rfl (by omega) (by omega) (by omega) (x_kk rfl) ?_
  refine e_rv (M := mX8_copy) dX8_copy_14 rfl (x_kk rfl) (x_kk rfl) ?_
  rfl
/-- a field's copy, an array's copy -/
def x_cpf (I : Nat → Nat → Int32) (b g j : Nat) : Nat → Nat → Int32 := va_up I b (va_up (I b) j (I g j))
def x_cpa (I : Nat → Nat → Int32) (b g w : Nat) : Nat → Nat → Int32 := va_up I b (va_cpy (I g) (I b) 0 0 w)
def x_cpg (L : Nat → Nat → Int64) (b g j : Nat) : Nat → Nat → Int64 := va_up L b (va_up (L b) j (L g j))
def x_cpb (L : Nat → Nat → Int64) (b g w : Nat) : Nat → Nat → Int64 := va_up L b (va_cpy (L g) (L b) 0 0 w)
def cp7_I (I : Nat → Nat → Int32) (β γ : Nat) : Nat → Nat → Int32 := (x_cpa (x_cpa (x_cpa (x_cpf I (β + 1) (γ + 1) 0) (β + 2) (γ + 2) 7) (β + 3) (γ + 3) 6) (β + 4) (γ + 4) 6)
theorem c_X7_copyFrom (hR : x_wf R) {β γ : Nat} (hβ : x_sl β) (hγ : x_sl γ) : x_Cv X mX7_copyFrom [.ref (β + 1), .ref (γ + 1)] (I, L, R) 233 (.inl none, (cp7_I I β γ, L, R), 233) := by
  show x_Ev X mX7_copyFrom 0 [some (.ref (β + 1)), some (.ref (γ + 1))] [] ((I, L, R), 233, 0, 0) _
  refine f_aload_n (M := mX7_copyFrom) 1 dX7_copyFrom_0 rfl rfl ?_
  refine f_aload_n (M := mX7_copyFrom) 2 dX7_copyFrom_1 rfl rfl ?_
  refine e_getI (M := mX7_copyFrom) dX7_copyFrom_2 fl_7028 (x_kk rfl) (sl_lt hγ 1 rfl) (sl_s hγ 1 rfl rfl) ?_
  refine e_putI (M := mX7_copyFrom) dX7_copyFrom_5 fl_7028 (x_kk rfl) (sl_lt hβ 1 rfl) (sl_s hβ 1 rfl rfl) (fun q9 => Bool.noConfusion q9) ?_
  refine f_aload_n (M := mX7_copyFrom) 9 dX7_copyFrom_8 rfl rfl ?_
  refine e_getR (M := mX7_copyFrom) dX7_copyFrom_9 fl_7009 (x_kk rfl) (sl_lt hγ 1 rfl) (sl_s hγ 1 rfl rfl) (wf_7_1 hR hγ) ?_
  refine f_aload_n (M := mX7_copyFrom) 13 dX7_copyFrom_12 rfl rfl ?_
  refine e_getR (M := mX7_copyFrom) dX7_copyFrom_13 fl_7009 (x_kk rfl) (sl_lt hβ 1 rfl) (sl_s hβ 1 rfl rfl) (wf_7_1 hR hβ) ?_
  refine e_cS (M := mX7_copyFrom) [] 0 0 dX7_copyFrom_16 pa_7024 cc_7024 rfl rfl rfl rfl rfl (x_kk rfl) (x_kk rfl) rfl (c_X8_copy (sl_lt hγ 2 rfl) (sl_shp hγ 2 rfl) (sl_lt hβ 2 rfl) (sl_shp hβ 2 rfl) (by decide)) rfl ?_
  refine f_aload_n (M := mX7_copyFrom) 20 dX7_copyFrom_19 rfl rfl ?_
  refine e_getR (M := mX7_copyFrom) dX7_copyFrom_20 fl_7015 (x_kk rfl) (sl_lt hγ 1 rfl) (sl_s hγ 1 rfl rfl) (wf_7_2 hR hγ) ?_
  refine f_aload_n (M := mX7_copyFrom) 24 dX7_copyFrom_23 rfl rfl ?_
  refine e_getR (M := mX7_copyFrom) dX7_copyFrom_24 fl_7015 (x_kk rfl) (sl_lt hβ 1 rfl) (sl_s hβ 1 rfl rfl) (wf_7_2 hR hβ) ?_
  refine e_cS (M := mX7_copyFrom) [] 0 0 dX7_copyFrom_27 pa_7024 cc_7024 rfl rfl rfl rfl rfl (x_kk rfl) (x_kk rfl) rfl (c_X8_copy (sl_lt hγ 3 rfl) (sl_shp hγ 3 rfl) (sl_lt hβ 3 rfl) (sl_shp hβ 3 rfl) (by decide)) rfl ?_
  refine f_aload_n (M := mX7_copyFrom) 31 dX7_copyFrom_30 rfl rfl ?_
  refine e_getR (M := mX7_copyFrom) dX7_copyFrom_31 fl_7018 (x_kk rfl) (sl_lt hγ 1 rfl) (sl_s hγ 1 rfl rfl) (wf_7_3 hR hγ) ?_
  refine f_aload_n (M := mX7_copyFrom) 35 dX7_copyFrom_34 rfl rfl ?_
  refine e_getR (M := mX7_copyFrom) dX7_copyFrom_35 fl_7018 (x_kk rfl) (sl_lt hβ 1 rfl) (sl_s hβ 1 rfl rfl) (wf_7_3 hR hβ) ?_
  refine e_cS (M := mX7_copyFrom) [] 0 0 dX7_copyFrom_38 pa_7024 cc_7024 rfl rfl rfl rfl rfl (x_kk rfl) (x_kk rfl) rfl (c_X8_copy (sl_lt hγ 4 rfl) (sl_shp hγ 4 rfl) (sl_lt hβ 4 rfl) (sl_shp hβ 4 rfl) (by decide)) rfl ?_
  refine e_rv (M := mX7_copyFrom) dX7_copyFrom_41 rfl (x_kk rfl) (x_kk rfl) ?_
  rfl
def cp2_I (I : Nat → Nat → Int32) (β γ : Nat) : Nat → Nat → Int32 := (x_cpa (x_cpf I (β + 5) (γ + 5) 0) (β + 6) (γ + 6) 180)
theorem c_X2_copyFrom (hR : x_wf R) {β γ : Nat} (hβ : x_sl β) (hγ : x_sl γ) : x_Cv X mX2_copyFrom [.ref (β + 5), .ref (γ + 5)] (I, L, R) 233 (.inl none, (cp2_I I β γ, L, R), 233) := by
  show x_Ev X mX2_copyFrom 0 [some (.ref (β + 5)), some (.ref (γ + 5))] [] ((I, L, R), 233, 0, 0) _
  refine f_aload_n (M := mX2_copyFrom) 1 dX2_copyFrom_0 rfl rfl ?_
  refine f_aload_n (M := mX2_copyFrom) 2 dX2_copyFrom_1 rfl rfl ?_
  refine e_getI (M := mX2_copyFrom) dX2_copyFrom_2 fl_2015 (x_kk rfl) (sl_lt hγ 5 rfl) (sl_s hγ 5 rfl rfl) ?_
  refine e_putI (M := mX2_copyFrom) dX2_copyFrom_5 fl_2015 (x_kk rfl) (sl_lt hβ 5 rfl) (sl_s hβ 5 rfl rfl) (fun q9 => Bool.noConfusion q9) ?_
  refine f_aload_n (M := mX2_copyFrom) 9 dX2_copyFrom_8 rfl rfl ?_
  refine e_getR (M := mX2_copyFrom) dX2_copyFrom_9 fl_2009 (x_kk rfl) (sl_lt hγ 5 rfl) (sl_s hγ 5 rfl rfl) (wf_2_1 hR hγ) ?_
  refine f_aload_n (M := mX2_copyFrom) 13 dX2_copyFrom_12 rfl rfl ?_
  refine e_getR (M := mX2_copyFrom) dX2_copyFrom_13 fl_2009 (x_kk rfl) (sl_lt hβ 5 rfl) (sl_s hβ 5 rfl rfl) (wf_2_1 hR hβ) ?_
  refine e_cS (M := mX2_copyFrom) [] 0 0 dX2_copyFrom_16 pa_2025 cc_2025 rfl rfl rfl rfl rfl (x_kk rfl) (x_kk rfl) rfl (c_X8_copy (sl_lt hγ 6 rfl) (sl_shp hγ 6 rfl) (sl_lt hβ 6 rfl) (sl_shp hβ 6 rfl) (by decide)) rfl ?_
  refine e_rv (M := mX2_copyFrom) dX2_copyFrom_19 rfl (x_kk rfl) (x_kk rfl) ?_
  rfl
def cp0_I (I : Nat → Nat → Int32) (β γ : Nat) : Nat → Nat → Int32 := (x_cpf (x_cpf (x_cpa (x_cpa (x_cpa (x_cpa I (β + 8) (γ + 8) 6) (β + 9) (γ + 9) 48) (β + 10) (γ + 10) 8) (β + 11) (γ + 11) 8) (β + 7) (γ + 7) 4) (β + 7) (γ + 7) 5)
theorem c_X0_copyFrom (hR : x_wf R) {β γ : Nat} (hβ : x_sl β) (hγ : x_sl γ) : x_Cv X mX0_copyFrom [.ref (β + 7), .ref (γ + 7)] (I, L, R) 233 (.inl none, (cp0_I I β γ, L, R), 233) := by
  show x_Ev X mX0_copyFrom 0 [some (.ref (β + 7)), some (.ref (γ + 7))] [] ((I, L, R), 233, 0, 0) _
  refine f_aload_n (M := mX0_copyFrom) 1 dX0_copyFrom_0 rfl rfl ?_
  refine e_getR (M := mX0_copyFrom) dX0_copyFrom_1 fl_9 (x_kk rfl) (sl_lt hγ 7 rfl) (sl_s hγ 7 rfl rfl) (wf_0_0 hR hγ) ?_
  refine f_aload_n (M := mX0_copyFrom) 5 dX0_copyFrom_4 rfl rfl ?_
  refine e_getR (M := mX0_copyFrom) dX0_copyFrom_5 fl_9 (x_kk rfl) (sl_lt hβ 7 rfl) (sl_s hβ 7 rfl rfl) (wf_0_0 hR hβ) ?_
  refine e_cS (M := mX0_copyFrom) [] 0 0 dX0_copyFrom_8 pa_37 cc_37 rfl rfl rfl rfl rfl (x_kk rfl) (x_kk rfl) rfl (c_X8_copy (sl_lt hγ 8 rfl) (sl_shp hγ 8 rfl) (sl_lt hβ 8 rfl) (sl_shp hβ 8 rfl) (by decide)) rfl ?_
  refine f_aload_n (M := mX0_copyFrom) 12 dX0_copyFrom_11 rfl rfl ?_
  refine e_getR (M := mX0_copyFrom) dX0_copyFrom_12 fl_15 (x_kk rfl) (sl_lt hγ 7 rfl) (sl_s hγ 7 rfl rfl) (wf_0_1 hR hγ) ?_
  refine f_aload_n (M := mX0_copyFrom) 16 dX0_copyFrom_15 rfl rfl ?_
  refine e_getR (M := mX0_copyFrom) dX0_copyFrom_16 fl_15 (x_kk rfl) (sl_lt hβ 7 rfl) (sl_s hβ 7 rfl rfl) (wf_0_1 hR hβ) ?_
  refine e_cS (M := mX0_copyFrom) [] 0 0 dX0_copyFrom_19 pa_37 cc_37 rfl rfl rfl rfl rfl (x_kk rfl) (x_kk rfl) rfl (c_X8_copy (sl_lt hγ 9 rfl) (sl_shp hγ 9 rfl) (sl_lt hβ 9 rfl) (sl_shp hβ 9 rfl) (by decide)) rfl ?_
  refine f_aload_n (M := mX0_copyFrom) 23 dX0_copyFrom_22 rfl rfl ?_
  refine e_getR (M := mX0_copyFrom) dX0_copyFrom_23 fl_18 (x_kk rfl) (sl_lt hγ 7 rfl) (sl_s hγ 7 rfl rfl) (wf_0_2 hR hγ) ?_
  refine f_aload_n (M := mX0_copyFrom) 27 dX0_copyFrom_26 rfl rfl ?_
  refine e_getR (M := mX0_copyFrom) dX0_copyFrom_27 fl_18 (x_kk rfl) (sl_lt hβ 7 rfl) (sl_s hβ 7 rfl rfl) (wf_0_2 hR hβ) ?_
  refine e_cS (M := mX0_copyFrom) [] 0 0 dX0_copyFrom_30 pa_37 cc_37 rfl rfl rfl rfl rfl (x_kk rfl) (x_kk rfl) rfl (c_X8_copy (sl_lt hγ 10 rfl) (sl_shp hγ 10 rfl) (sl_lt hβ 10 rfl) (sl_shp hβ 10 rfl) (by decide)) rfl ?_
  refine f_aload_n (M := mX0_copyFrom) 34 dX0_copyFrom_33 rfl rfl ?_
  refine e_getR (M := mX0_copyFrom) dX0_copyFrom_34 fl_21 (x_kk rfl) (sl_lt hγ 7 rfl) (sl_s hγ 7 rfl rfl) (wf_0_3 hR hγ) ?_
  refine f_aload_n (M := mX0_copyFrom) 38 dX0_copyFrom_37 rfl rfl ?_
  refine e_getR (M := mX0_copyFrom) dX0_copyFrom_38 fl_21 (x_kk rfl) (sl_lt hβ 7 rfl) (sl_s hβ 7 rfl rfl) (wf_0_3 hR hβ) ?_
  refine e_cS (M := mX0_copyFrom) [] 0 0 dX0_copyFrom_41 pa_37 cc_37 rfl rfl rfl rfl rfl (x_kk rfl) (x_kk rfl) rfl (c_X8_copy (sl_lt hγ 11 rfl) (sl_shp hγ 11 rfl) (sl_lt hβ 11 rfl) (sl_shp hβ 11 rfl) (by decide)) rfl ?_
  refine f_aload_n (M := mX0_copyFrom) 45 dX0_copyFrom_44 rfl rfl ?_
  refine f_aload_n (M := mX0_copyFrom) 46 dX0_copyFrom_45 rfl rfl ?_
  refine e_getI (M := mX0_copyFrom) dX0_copyFrom_46 fl_34 (x_kk rfl) (sl_lt hγ 7 rfl) (sl_s hγ 7 rfl rfl) ?_
  refine e_putI (M := mX0_copyFrom) dX0_copyFrom_49 fl_34 (x_kk rfl) (sl_lt hβ 7 rfl) (sl_s hβ 7 rfl rfl) (fun q9 => Bool.noConfusion q9) ?_
  refine f_aload_n (M := mX0_copyFrom) 53 dX0_copyFrom_52 rfl rfl ?_
  refine f_aload_n (M := mX0_copyFrom) 54 dX0_copyFrom_53 rfl rfl ?_
  refine e_getI (M := mX0_copyFrom) dX0_copyFrom_54 fl_24 (x_kk rfl) (sl_lt hγ 7 rfl) (sl_s hγ 7 rfl rfl) ?_
  refine e_putI (M := mX0_copyFrom) dX0_copyFrom_57 fl_24 (x_kk rfl) (sl_lt hβ 7 rfl) (sl_s hβ 7 rfl rfl) (fun q9 => Bool.noConfusion q9) ?_
  refine e_rv (M := mX0_copyFrom) dX0_copyFrom_60 rfl (x_kk rfl) (x_kk rfl) ?_
  rfl
def cp1_I (I : Nat → Nat → Int32) (β γ : Nat) : Nat → Nat → Int32 := (x_cpf (x_cpf (x_cpf (x_cpa (x_cpa (x_cpa I (β + 13) (γ + 13) 6) (β + 14) (γ + 14) 6) (β + 15) (γ + 15) 72) (β + 12) (γ + 12) 4) (β + 12) (γ + 12) 5) (β + 12) (γ + 12) 6)
theorem c_X1_copyFrom (hR : x_wf R) {β γ : Nat} (hβ : x_sl β) (hγ : x_sl γ) : x_Cv X mX1_copyFrom [.ref (β + 12), .ref (γ + 12)] (I, L, R) 233 (.inl none, (cp1_I I β γ, x_cpg (x_cpb L (β + 16) (γ + 16) 36) (β + 12) (γ + 12) 7, R), 233) := by
  show x_Ev X mX1_copyFrom 0 [some (.ref (β + 12)), some (.ref (γ + 12))] [] ((I, L, R), 233, 0, 0) _
  refine f_aload_n (M := mX1_copyFrom) 1 dX1_copyFrom_0 rfl rfl ?_
  refine e_getR (M := mX1_copyFrom) dX1_copyFrom_1 fl_1009 (x_kk rfl) (sl_lt hγ 12 rfl) (sl_s hγ 12 rfl rfl) (wf_1_0 hR hγ) ?_
  refine f_aload_n (M := mX1_copyFrom) 5 dX1_copyFrom_4 rfl rfl ?_
  refine e_getR (M := mX1_copyFrom) dX1_copyFrom_5 fl_1009 (x_kk rfl) (sl_lt hβ 12 rfl) (sl_s hβ 12 rfl rfl) (wf_1_0 hR hβ) ?_
  refine e_cS (M := mX1_copyFrom) [] 0 0 dX1_copyFrom_8 pa_1048 cc_1048 rfl rfl rfl rfl rfl (x_kk rfl) (x_kk rfl) rfl (c_X8_copy (sl_lt hγ 13 rfl) (sl_shp hγ 13 rfl) (sl_lt hβ 13 rfl) (sl_shp hβ 13 rfl) (by decide)) rfl ?_
  refine f_aload_n (M := mX1_copyFrom) 12 dX1_copyFrom_11 rfl rfl ?_
  refine e_getR (M := mX1_copyFrom) dX1_copyFrom_12 fl_1015 (x_kk rfl) (sl_lt hγ 12 rfl) (sl_s hγ 12 rfl rfl) (wf_1_1 hR hγ) ?_
  refine f_aload_n (M := mX1_copyFrom) 16 dX1_copyFrom_15 rfl rfl ?_
  refine e_getR (M := mX1_copyFrom) dX1_copyFrom_16 fl_1015 (x_kk rfl) (sl_lt hβ 12 rfl) (sl_s hβ 12 rfl rfl) (wf_1_1 hR hβ) ?_
  refine e_cS (M := mX1_copyFrom) [] 0 0 dX1_copyFrom_19 pa_1048 cc_1048 rfl rfl rfl rfl rfl (x_kk rfl) (x_kk rfl) rfl (c_X8_copy (sl_lt hγ 14 rfl) (sl_shp hγ 14 rfl) (sl_lt hβ 14 rfl) (sl_shp hβ 14 rfl) (by decide)) rfl ?_
  refine f_aload_n (M := mX1_copyFrom) 23 dX1_copyFrom_22 rfl rfl ?_
  refine e_getR (M := mX1_copyFrom) dX1_copyFrom_23 fl_1018 (x_kk rfl) (sl_lt hγ 12 rfl) (sl_s hγ 12 rfl rfl) (wf_1_2 hR hγ) ?_
  refine f_aload_n (M := mX1_copyFrom) 27 dX1_copyFrom_26 rfl rfl ?_
  refine e_getR (M := mX1_copyFrom) dX1_copyFrom_27 fl_1018 (x_kk rfl) (sl_lt hβ 12 rfl) (sl_s hβ 12 rfl rfl) (wf_1_2 hR hβ) ?_
  refine e_cS (M := mX1_copyFrom) [] 0 0 dX1_copyFrom_30 pa_1048 cc_1048 rfl rfl rfl rfl rfl (x_kk rfl) (x_kk rfl) rfl (c_X8_copy (sl_lt hγ 15 rfl) (sl_shp hγ 15 rfl) (sl_lt hβ 15 rfl) (sl_shp hβ 15 rfl) (by decide)) rfl ?_
  refine f_aload_n (M := mX1_copyFrom) 34 dX1_copyFrom_33 rfl rfl ?_
  refine e_getR (M := mX1_copyFrom) dX1_copyFrom_34 fl_1021 (x_kk rfl) (sl_lt hγ 12 rfl) (sl_s hγ 12 rfl rfl) (wf_1_3 hR hγ) ?_
  refine f_iconst (M := mX1_copyFrom) 38 dX1_copyFrom_37 ki_0 rfl ?_
  refine f_aload_n (M := mX1_copyFrom) 39 dX1_copyFrom_38 rfl rfl ?_
  refine e_getR (M := mX1_copyFrom) dX1_copyFrom_39 fl_1021 (x_kk rfl) (sl_lt hβ 12 rfl) (sl_s hβ 12 rfl rfl) (wf_1_3 hR hβ) ?_
  refine f_iconst (M := mX1_copyFrom) 43 dX1_copyFrom_42 ki_0 rfl ?_
  refine f_bipush (M := mX1_copyFrom) 45 dX1_copyFrom_43 kb_36 rfl ?_
  refine e_cpyL (M := mX1_copyFrom) (wa := 36) (wb := 36) (m := 36) (s := 0) (d := 0) dX1_copyFrom_45 ct_1052 (x_kk rfl) (sl_lt hγ 16 rfl) (sl_shp hγ 16 rfl) (sl_lt hβ 16 rfl) (sl_shp hβ 16 rfl) kn_0 kn_0 kn_36 (by omega) (by omega) (by omega) (x_kk rfl) ?_
  refine f_aload_n (M := mX1_copyFrom) 49 dX1_copyFrom_48 rfl rfl ?_
  refine f_aload_n (M := mX1_copyFrom) 50 dX1_copyFrom_49 rfl rfl ?_
  refine e_getI (M := mX1_copyFrom) dX1_copyFrom_50 fl_1025 (x_kk rfl) (sl_lt hγ 12 rfl) (sl_s hγ 12 rfl rfl) ?_
  refine e_putI (M := mX1_copyFrom) dX1_copyFrom_53 fl_1025 (x_kk rfl) (sl_lt hβ 12 rfl) (sl_s hβ 12 rfl rfl) (fun q9 => Bool.noConfusion q9) ?_
  refine f_aload_n (M := mX1_copyFrom) 57 dX1_copyFrom_56 rfl rfl ?_
  refine f_aload_n (M := mX1_copyFrom) 58 dX1_copyFrom_57 rfl rfl ?_
  refine e_getI (M := mX1_copyFrom) dX1_copyFrom_58 fl_1038 (x_kk rfl) (sl_lt hγ 12 rfl) (sl_s hγ 12 rfl rfl) ?_
  refine e_putI (M := mX1_copyFrom) dX1_copyFrom_61 fl_1038 (x_kk rfl) (sl_lt hβ 12 rfl) (sl_s hβ 12 rfl rfl) (fun q9 => Bool.noConfusion q9) ?_
  refine f_aload_n (M := mX1_copyFrom) 65 dX1_copyFrom_64 rfl rfl ?_
  refine f_aload_n (M := mX1_copyFrom) 66 dX1_copyFrom_65 rfl rfl ?_
  refine e_getI (M := mX1_copyFrom) dX1_copyFrom_66 fl_1041 (x_kk rfl) (sl_lt hγ 12 rfl) (sl_s hγ 12 rfl rfl) ?_
  refine e_putI (M := mX1_copyFrom) dX1_copyFrom_69 fl_1041 (x_kk rfl) (sl_lt hβ 12 rfl) (sl_s hβ 12 rfl rfl) (fun q9 => Bool.noConfusion q9) ?_
  refine f_aload_n (M := mX1_copyFrom) 73 dX1_copyFrom_72 rfl rfl ?_
  refine f_aload_n (M := mX1_copyFrom) 74 dX1_copyFrom_73 rfl rfl ?_
  refine e_getL (M := mX1_copyFrom) dX1_copyFrom_74 fl_1044 (x_kk rfl) (sl_lt hγ 12 rfl) (sl_s hγ 12 rfl rfl) ?_
  refine e_putL (M := mX1_copyFrom) dX1_copyFrom_77 fl_1044 (x_kk rfl) (sl_lt hβ 12 rfl) (sl_s hβ 12 rfl rfl) (fun q9 => Bool.noConfusion q9) ?_
  refine e_rv (M := mX1_copyFrom) dX1_copyFrom_80 rfl (x_kk rfl) (x_kk rfl) ?_
  rfl
def cp4_I (I : Nat → Nat → Int32) (β γ : Nat) : Nat → Nat → Int32 := (x_cpa (x_cpa (x_cpa (x_cpa (x_cpf (x_cpf (x_cpf I (β + 17) (γ + 17) 0) (β + 17) (γ + 17) 1) (β + 17) (γ + 17) 2) (β + 18) (γ + 18) 60) (β + 19) (γ + 19) 60) (β + 20) (γ + 20) 60) (β + 21) (γ + 21) 60)
theorem c_X4_copyFrom (hR : x_wf R) {β γ : Nat} (hβ : x_sl β) (hγ : x_sl γ) : x_Cv X mX4_copyFrom [.ref (β + 17), .ref (γ + 17)] (I, L, R) 233 (.inl none, (cp4_I I β γ, L, R), 233) := by
  show x_Ev X mX4_copyFrom 0 [some (.ref (β + 17)), some (.ref (γ + 17))] [] ((I, L, R), 233, 0, 0) _
  refine f_aload_n (M := mX4_copyFrom) 1 dX4_copyFrom_0 rfl rfl ?_
  refine f_aload_n (M := mX4_copyFrom) 2 dX4_copyFrom_1 rfl rfl ?_
  refine e_getI (M := mX4_copyFrom) dX4_copyFrom_2 fl_4024 (x_kk rfl) (sl_lt hγ 17 rfl) (sl_s hγ 17 rfl rfl) ?_
  refine e_putI (M := mX4_copyFrom) dX4_copyFrom_5 fl_4024 (x_kk rfl) (sl_lt hβ 17 rfl) (sl_s hβ 17 rfl rfl) (fun q9 => Bool.noConfusion q9) ?_
  refine f_aload_n (M := mX4_copyFrom) 9 dX4_copyFrom_8 rfl rfl ?_
  refine f_aload_n (M := mX4_copyFrom) 10 dX4_copyFrom_9 rfl rfl ?_
  refine e_getI (M := mX4_copyFrom) dX4_copyFrom_10 fl_4028 (x_kk rfl) (sl_lt hγ 17 rfl) (sl_s hγ 17 rfl rfl) ?_
  refine e_putI (M := mX4_copyFrom) dX4_copyFrom_13 fl_4028 (x_kk rfl) (sl_lt hβ 17 rfl) (sl_s hβ 17 rfl rfl) (fun q9 => Bool.noConfusion q9) ?_
  refine f_aload_n (M := mX4_copyFrom) 17 dX4_copyFrom_16 rfl rfl ?_
  refine f_aload_n (M := mX4_copyFrom) 18 dX4_copyFrom_17 rfl rfl ?_
  refine e_getI (M := mX4_copyFrom) dX4_copyFrom_18 fl_4031 (x_kk rfl) (sl_lt hγ 17 rfl) (sl_s hγ 17 rfl rfl) ?_
  refine e_putI (M := mX4_copyFrom) dX4_copyFrom_21 fl_4031 (x_kk rfl) (sl_lt hβ 17 rfl) (sl_s hβ 17 rfl rfl) (fun q9 => Bool.noConfusion q9) ?_
  refine f_aload_n (M := mX4_copyFrom) 25 dX4_copyFrom_24 rfl rfl ?_
  refine e_getR (M := mX4_copyFrom) dX4_copyFrom_25 fl_4009 (x_kk rfl) (sl_lt hγ 17 rfl) (sl_s hγ 17 rfl rfl) (wf_4_3 hR hγ) ?_
  refine f_aload_n (M := mX4_copyFrom) 29 dX4_copyFrom_28 rfl rfl ?_
  refine e_getR (M := mX4_copyFrom) dX4_copyFrom_29 fl_4009 (x_kk rfl) (sl_lt hβ 17 rfl) (sl_s hβ 17 rfl rfl) (wf_4_3 hR hβ) ?_
  refine e_cS (M := mX4_copyFrom) [] 0 0 dX4_copyFrom_32 pa_4034 cc_4034 rfl rfl rfl rfl rfl (x_kk rfl) (x_kk rfl) rfl (c_X8_copy (sl_lt hγ 18 rfl) (sl_shp hγ 18 rfl) (sl_lt hβ 18 rfl) (sl_shp hβ 18 rfl) (by decide)) rfl ?_
  refine f_aload_n (M := mX4_copyFrom) 36 dX4_copyFrom_35 rfl rfl ?_
  refine e_getR (M := mX4_copyFrom) dX4_copyFrom_36 fl_4015 (x_kk rfl) (sl_lt hγ 17 rfl) (sl_s hγ 17 rfl rfl) (wf_4_4 hR hγ) ?_
  refine f_aload_n (M := mX4_copyFrom) 40 dX4_copyFrom_39 rfl rfl ?_
  refine e_getR (M := mX4_copyFrom) dX4_copyFrom_40 fl_4015 (x_kk rfl) (sl_lt hβ 17 rfl) (sl_s hβ 17 rfl rfl) (wf_4_4 hR hβ) ?_
  refine e_cS (M := mX4_copyFrom) [] 0 0 dX4_copyFrom_43 pa_4034 cc_4034 rfl rfl rfl rfl rfl (x_kk rfl) (x_kk rfl) rfl (c_X8_copy (sl_lt hγ 19 rfl) (sl_shp hγ 19 rfl) (sl_lt hβ 19 rfl) (sl_shp hβ 19 rfl) (by decide)) rfl ?_
  refine f_aload_n (M := mX4_copyFrom) 47 dX4_copyFrom_46 rfl rfl ?_
  refine e_getR (M := mX4_copyFrom) dX4_copyFrom_47 fl_4018 (x_kk rfl) (sl_lt hγ 17 rfl) (sl_s hγ 17 rfl rfl) (wf_4_5 hR hγ) ?_
  refine f_aload_n (M := mX4_copyFrom) 51 dX4_copyFrom_50 rfl rfl ?_
  refine e_getR (M := mX4_copyFrom) dX4_copyFrom_51 fl_4018 (x_kk rfl) (sl_lt hβ 17 rfl) (sl_s hβ 17 rfl rfl) (wf_4_5 hR hβ) ?_
  refine e_cS (M := mX4_copyFrom) [] 0 0 dX4_copyFrom_54 pa_4034 cc_4034 rfl rfl rfl rfl rfl (x_kk rfl) (x_kk rfl) rfl (c_X8_copy (sl_lt hγ 20 rfl) (sl_shp hγ 20 rfl) (sl_lt hβ 20 rfl) (sl_shp hβ 20 rfl) (by decide)) rfl ?_
  refine f_aload_n (M := mX4_copyFrom) 58 dX4_copyFrom_57 rfl rfl ?_
  refine e_getR (M := mX4_copyFrom) dX4_copyFrom_58 fl_4021 (x_kk rfl) (sl_lt hγ 17 rfl) (sl_s hγ 17 rfl rfl) (wf_4_6 hR hγ) ?_
  refine f_aload_n (M := mX4_copyFrom) 62 dX4_copyFrom_61 rfl rfl ?_
  refine e_getR (M := mX4_copyFrom) dX4_copyFrom_62 fl_4021 (x_kk rfl) (sl_lt hβ 17 rfl) (sl_s hβ 17 rfl rfl) (wf_4_6 hR hβ) ?_
  refine e_cS (M := mX4_copyFrom) [] 0 0 dX4_copyFrom_65 pa_4034 cc_4034 rfl rfl rfl rfl rfl (x_kk rfl) (x_kk rfl) rfl (c_X8_copy (sl_lt hγ 21 rfl) (sl_shp hγ 21 rfl) (sl_lt hβ 21 rfl) (sl_shp hβ 21 rfl) (by decide)) rfl ?_
  refine e_rv (M := mX4_copyFrom) dX4_copyFrom_68 rfl (x_kk rfl) (x_kk rfl) ?_
  rfl
def cp6_I (I : Nat → Nat → Int32) (β γ : Nat) : Nat → Nat → Int32 := cp4_I (cp1_I (cp0_I (cp2_I (cp7_I (x_cpf I β γ 0) β γ) β γ) β γ) β γ) β γ
def cp6_L (L : Nat → Nat → Int64) (β γ : Nat) : Nat → Nat → Int64 := x_cpg (x_cpb L (β + 16) (γ + 16) 36) (β + 12) (γ + 12) 7
theorem c_X6_copyFrom (hR : x_wf R) {β γ : Nat} (hβ : x_sl β) (hγ : x_sl γ) : x_Cv X mX6_copyFrom [.ref β, .ref γ] (I, L, R) 233 (.inl none, (cp6_I I β γ, cp6_L L β γ, R), 233) := by
  show x_Ev X mX6_copyFrom 0 [some (.ref β), some (.ref γ)] [] ((I, L, R), 233, 0, 0) _
  refine f_aload_n (M := mX6_copyFrom) 1 dX6_copyFrom_0 rfl rfl ?_
  refine f_aload_n (M := mX6_copyFrom) 2 dX6_copyFrom_1 rfl rfl ?_
  refine e_getI (M := mX6_copyFrom) dX6_copyFrom_2 fl_6046 (x_kk rfl) (sl_lt hγ 0 rfl) (sl_s hγ 0 rfl rfl) ?_
  refine e_putI (M := mX6_copyFrom) dX6_copyFrom_5 fl_6046 (x_kk rfl) (sl_lt hβ 0 rfl) (sl_s hβ 0 rfl rfl) (fun q9 => Bool.noConfusion q9) ?_
  refine f_aload_n (M := mX6_copyFrom) 9 dX6_copyFrom_8 rfl rfl ?_
  refine e_getR (M := mX6_copyFrom) dX6_copyFrom_9 fl_6012 (x_kk rfl) (sl_lt hβ 0 rfl) (sl_s hβ 0 rfl rfl) (wf_6_1 hR hβ) ?_
  refine f_aload_n (M := mX6_copyFrom) 13 dX6_copyFrom_12 rfl rfl ?_
  refine e_getR (M := mX6_copyFrom) dX6_copyFrom_13 fl_6012 (x_kk rfl) (sl_lt hγ 0 rfl) (sl_s hγ 0 rfl rfl) (wf_6_1 hR hγ) ?_
  refine e_cV (M := mX6_copyFrom) [] 0 0 dX6_copyFrom_16 pa_6057 pb_6057 cc_6057 rfl rfl rfl rfl rfl (x_kk rfl) (x_kk rfl) (x_rcvOK (sl_lt hβ 1 rfl) (sl_s hβ 1 rfl rfl) rfl) (c_X7_copyFrom hR hβ hγ) rfl ?_
  refine f_aload_n (M := mX6_copyFrom) 20 dX6_copyFrom_19 rfl rfl ?_
  refine e_getR (M := mX6_copyFrom) dX6_copyFrom_20 fl_6021 (x_kk rfl) (sl_lt hβ 0 rfl) (sl_s hβ 0 rfl rfl) (wf_6_2 hR hβ) ?_
  refine f_aload_n (M := mX6_copyFrom) 24 dX6_copyFrom_23 rfl rfl ?_
  refine e_getR (M := mX6_copyFrom) dX6_copyFrom_24 fl_6021 (x_kk rfl) (sl_lt hγ 0 rfl) (sl_s hγ 0 rfl rfl) (wf_6_2 hR hγ) ?_
  refine e_cV (M := mX6_copyFrom) [] 0 0 dX6_copyFrom_27 pa_6061 pb_6061 cc_6061 rfl rfl rfl rfl rfl (x_kk rfl) (x_kk rfl) (x_rcvOK (sl_lt hβ 5 rfl) (sl_s hβ 5 rfl rfl) rfl) (c_X2_copyFrom hR hβ hγ) rfl ?_
  refine f_aload_n (M := mX6_copyFrom) 31 dX6_copyFrom_30 rfl rfl ?_
  refine e_getR (M := mX6_copyFrom) dX6_copyFrom_31 fl_6028 (x_kk rfl) (sl_lt hβ 0 rfl) (sl_s hβ 0 rfl rfl) (wf_6_3 hR hβ) ?_
  refine f_aload_n (M := mX6_copyFrom) 35 dX6_copyFrom_34 rfl rfl ?_
  refine e_getR (M := mX6_copyFrom) dX6_copyFrom_35 fl_6028 (x_kk rfl) (sl_lt hγ 0 rfl) (sl_s hγ 0 rfl rfl) (wf_6_3 hR hγ) ?_
  refine e_cV (M := mX6_copyFrom) [] 0 0 dX6_copyFrom_38 pa_6064 pb_6064 cc_6064 rfl rfl rfl rfl rfl (x_kk rfl) (x_kk rfl) (x_rcvOK (sl_lt hβ 7 rfl) (sl_s hβ 7 rfl rfl) rfl) (c_X0_copyFrom hR hβ hγ) rfl ?_
  refine f_aload_n (M := mX6_copyFrom) 42 dX6_copyFrom_41 rfl rfl ?_
  refine e_getR (M := mX6_copyFrom) dX6_copyFrom_42 fl_6035 (x_kk rfl) (sl_lt hβ 0 rfl) (sl_s hβ 0 rfl rfl) (wf_6_4 hR hβ) ?_
  refine f_aload_n (M := mX6_copyFrom) 46 dX6_copyFrom_45 rfl rfl ?_
  refine e_getR (M := mX6_copyFrom) dX6_copyFrom_46 fl_6035 (x_kk rfl) (sl_lt hγ 0 rfl) (sl_s hγ 0 rfl rfl) (wf_6_4 hR hγ) ?_
  refine e_cV (M := mX6_copyFrom) [] 0 0 dX6_copyFrom_49 pa_6067 pb_6067 cc_6067 rfl rfl rfl rfl rfl (x_kk rfl) (x_kk rfl) (x_rcvOK (sl_lt hβ 12 rfl) (sl_s hβ 12 rfl rfl) rfl) (c_X1_copyFrom hR hβ hγ) rfl ?_
  refine f_aload_n (M := mX6_copyFrom) 53 dX6_copyFrom_52 rfl rfl ?_
  refine e_getR (M := mX6_copyFrom) dX6_copyFrom_53 fl_6042 (x_kk rfl) (sl_lt hβ 0 rfl) (sl_s hβ 0 rfl rfl) (wf_6_5 hR hβ) ?_
  refine f_aload_n (M := mX6_copyFrom) 57 dX6_copyFrom_56 rfl rfl ?_
  refine e_getR (M := mX6_copyFrom) dX6_copyFrom_57 fl_6042 (x_kk rfl) (sl_lt hγ 0 rfl) (sl_s hγ 0 rfl rfl) (wf_6_5 hR hγ) ?_
  refine e_cV (M := mX6_copyFrom) [] 0 0 dX6_copyFrom_60 pa_6070 pb_6070 cc_6070 rfl rfl rfl rfl rfl (x_kk rfl) (x_kk rfl) (x_rcvOK (sl_lt hβ 17 rfl) (sl_s hβ 17 rfl rfl) rfl) (c_X4_copyFrom hR hβ hγ) rfl ?_
  refine e_rv (M := mX6_copyFrom) dX6_copyFrom_63 rfl (x_kk rfl) (x_kk rfl) ?_
  rfl
end

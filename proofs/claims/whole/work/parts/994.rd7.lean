/-! ===== the class's reader, fifth: clearing (laid by wip/whole/src/rd7.py) ===== -/
section
variable {X : x_X} {I : Nat → Nat → Int32} {L : Nat → Nat → Int64} {R : Nat → Nat → Option Nat} {N : Nat}
theorem n_min {n : Nat} {x y : Int32} : x_Cv X mJ9_min_7cf53 [.int x, .int y] (I, L, R) n (.inl (some (.int (if y < x then y else x))), (I, L, R), n) := by
  show x_Ev X mJ9_min_7cf53 0 [some (.int x), some (.int y)] [] ((I, L, R), n, 0, 0) _
  refine f_iload_n (M := mJ9_min_7cf53) 1 dJ9_min_7cf53_0 rfl rfl ?_
  refine f_iload_n (M := mJ9_min_7cf53) 2 dJ9_min_7cf53_1 rfl rfl ?_
  refine e_icmp_gt (M := mJ9_min_7cf53) (t := 9) dJ9_min_7cf53_2 rfl (fun h => ?_) (fun h => ?_)
  · refine f_iload_n (M := mJ9_min_7cf53) 10 dJ9_min_7cf53_9 rfl rfl ?_
    refine e_ri (M := mJ9_min_7cf53) dJ9_min_7cf53_10 rfl (x_kk rfl) (x_kk rfl) ?_
    exact r_i (if_pos h).symm
  · refine f_iload_n (M := mJ9_min_7cf53) 6 dJ9_min_7cf53_5 rfl rfl ?_
    refine f_goto (M := mJ9_min_7cf53) 10 dJ9_min_7cf53_6 rfl ?_
    refine e_ri (M := mJ9_min_7cf53) dJ9_min_7cf53_10 rfl (x_kk rfl) (x_kk rfl) ?_
    exact r_i (if_neg h).symm
theorem n_copyL {n q : Nat} (hn : n ≤ 233) (hq : q < n) (hqs : x_shp q = (1, 7)) : x_Cv X mX8_copy [.ref 1001, .ref q] (I, L, R) n (.inl none, (va_up I q (va_cpy x_least (I q) 0 0 7), L, R), n) := by
  show x_Ev X mX8_copy 0 [some (.ref 1001), some (.ref q)] [] ((I, L, R), n, 0, 0) _
  refine f_aload_n (M := mX8_copy) 1 dX8_copy_0 rfl rfl ?_
  refine f_iconst (M := mX8_copy) 2 dX8_copy_1 ki_0 rfl ?_
  refine f_aload_n (M := mX8_copy) 3 dX8_copy_2 rfl rfl ?_
  refine f_iconst (M := mX8_copy) 4 dX8_copy_3 ki_0 rfl ?_
  refine f_aload_n (M := mX8_copy) 5 dX8_copy_4 rfl rfl ?_
  refine e_lef (M := mX8_copy) (w := 7) (f := x_least) dX8_copy_5 (show n ≤ 1001 by omega) rfl ?_
  refine f_aload_n (M := mX8_copy) 7 dX8_copy_6 rfl rfl ?_
  refine e_len (M := mX8_copy) (w := 7) (t := 1) dX8_copy_7 hq hqs rfl ?_
  refine e_cS (M := mX8_copy) [_, _, _, _, _] 0 0 dX8_copy_8 pa_8093 cc_8093 rfl rfl rfl rfl rfl (x_kk rfl) (x_kk rfl) rfl (n_min) rfl ?_
  rw [ite_self]
  refine e_cpyI (M := mX8_copy) (wb := 7) (m := 7) (s := 0) (d := 0) dX8_copy_11 ct_8361 (x_kk rfl) ((x_arr_for (s := ((I, L, R), n, 0, 0)) (Nat.not_lt.mpr (show n ≤ 1001 by omega))).trans rfl) hq hqs kn_0 kn_0 rfl (Nat.le_refl _) (Nat.le_refl _) (by decide) (x_kk rfl) ?_
  refine e_rv (M := mX8_copy) dX8_copy_14 rfl (x_kk rfl) (x_kk rfl) ?_
  rfl
def y_zl (f : Nat → Int64) (k : Nat) : Nat → Int64 := fun j => if j < k then 0 else f j
theorem zl_s {f : Nat → Int64} {k : Nat} : va_up (y_zl f k) k 0 = y_zl f (k + 1) := by
  funext j
  unfold va_up y_zl
  by_cases h : j = k
  · rw [if_pos h, if_pos (by omega)]
  · rw [if_neg h]
    by_cases z : j < k
    · rw [if_pos z, if_pos (by omega)]
    · rw [if_neg z, if_neg (by omega)]
theorem zl_0 {f : Nat → Int64} : y_zl f 0 = f := by
  funext j
  unfold y_zl
  rw [if_neg (by omega)]
theorem l_J7_fillL {p w : Nat} (hr : p < 233) (hs : x_shp p = (2, w)) (hw : w < 5000) : ∀ d k, k + d = w → x_Ev X mJ7_fill_d0a16 6 [some (.ref p), some (.long 0), none, some (.int (Int32.ofNat k)), some (.int (Int32.ofNat w))] [] ((I, (va_up L p (y_zl (L p) k)), R), 233, 0, 0) (.inl none, (I, (va_up L p (y_zl (L p) w)), R), 233) := by
  intro d
  induction d with
  | zero =>
    intro k hd
    obtain rfl : w = k := hd.symm
    refine f_iload_n (M := mJ7_fill_d0a16) 7 dJ7_fill_d0a16_6 rfl rfl ?_
    refine f_iload (M := mJ7_fill_d0a16) 9 dJ7_fill_d0a16_7 rfl rfl ?_
    refine e_icmp_geT (M := mJ7_fill_d0a16) 22 dJ7_fill_d0a16_9 rfl (Int32.le_refl _) ?_
    refine e_rv (M := mJ7_fill_d0a16) dJ7_fill_d0a16_22 rfl (x_kk rfl) (x_kk rfl) ?_
    rfl
  | succ d ih =>
    intro k hd
    refine f_iload_n (M := mJ7_fill_d0a16) 7 dJ7_fill_d0a16_6 rfl rfl ?_
    refine f_iload (M := mJ7_fill_d0a16) 9 dJ7_fill_d0a16_7 rfl rfl ?_
    refine e_icmp_geF (M := mJ7_fill_d0a16) 22 dJ7_fill_d0a16_9 rfl (by rw [n_le (by omega) (by omega)]; omega) ?_
    refine f_aload_n (M := mJ7_fill_d0a16) 13 dJ7_fill_d0a16_12 rfl rfl ?_
    refine f_iload_n (M := mJ7_fill_d0a16) 14 dJ7_fill_d0a16_13 rfl rfl ?_
    refine f_lload_n (M := mJ7_fill_d0a16) 15 dJ7_fill_d0a16_14 rfl rfl ?_
    refine e_lst (M := mJ7_fill_d0a16) (w := w) (j := k) dJ7_fill_d0a16_15 hr hs rfl (by omega) (by omega) ?_
    refine f_iinc (M := mJ7_fill_d0a16) (ls' := [_, _, _, _, _]) 19 dJ7_fill_d0a16_16 ki_1 rfl rfl rfl rfl ?_
    refine f_goto (M := mJ7_fill_d0a16) 6 dJ7_fill_d0a16_19 rfl ?_
    rw [n_inc (s := k), up_s, up_up, zl_s]; exact ih (k + 1) (by omega)
theorem c_J7_fill_d0a16 {p w : Nat} (hr : p < 233) (hs : x_shp p = (2, w)) (hw : w < 5000) : x_Cv X mJ7_fill_d0a16 [.ref p, .long 0] (I, L, R) 233 (.inl none, (I, (va_up L p (y_zl (L p) w)), R), 233) := by
  show x_Ev X mJ7_fill_d0a16 0 [some (.ref p), some (.long 0), none, none, none] [] ((I, L, R), 233, 0, 0) _
  refine f_iconst (M := mJ7_fill_d0a16) 1 dJ7_fill_d0a16_0 ki_0 rfl ?_
  refine f_istore_n (M := mJ7_fill_d0a16) (ls' := [_, _, _, _, _]) 2 dJ7_fill_d0a16_1 rfl rfl rfl ?_
  refine f_aload_n (M := mJ7_fill_d0a16) 3 dJ7_fill_d0a16_2 rfl rfl ?_
  refine e_len (M := mJ7_fill_d0a16) (w := w) (t := 2) dJ7_fill_d0a16_3 hr hs rfl ?_
  refine f_istore (M := mJ7_fill_d0a16) (ls' := [_, _, _, _, _]) 6 dJ7_fill_d0a16_4 rfl rfl rfl ?_
  have l1 := l_J7_fillL (X := X) (I := I) (L := L) (R := R) hr hs hw w 0 (by omega); rw [zl_0, up_self] at l1; exact l1
theorem c_X7_clear (hR : x_wf R) {δ : Nat} (hδ : x_sl δ) : x_Cv X mX7_clear [.ref (δ + 1)] (I, L, R) 233 (.inl none, ((va_up (va_up (va_up (va_up I (δ + 1) (va_up (I (δ + 1)) 0 0)) (δ + 2) (va_cpy x_least (I (δ + 2)) 0 0 7)) (δ + 3) (y_z (I (δ + 3)) 0 6)) (δ + 4) (y_z (I (δ + 4)) 0 6)), L, R), 233) := by
  show x_Ev X mX7_clear 0 [some (.ref (δ + 1))] [] ((I, L, R), 233, 0, 0) _
  refine f_aload_n (M := mX7_clear) 1 dX7_clear_0 rfl rfl ?_
  refine f_iconst (M := mX7_clear) 2 dX7_clear_1 ki_0 rfl ?_
  refine e_putI (M := mX7_clear) dX7_clear_2 fl_7028 (x_kk rfl) (sl_lt hδ 1 rfl) (sl_s hδ 1 rfl rfl) (fun q9 => Bool.noConfusion q9) ?_
  refine e_sta (M := mX7_clear) dX7_clear_5 (x_kk rfl) sa_7021 ?_
  refine f_aload_n (M := mX7_clear) 9 dX7_clear_8 rfl rfl ?_
  refine e_getR (M := mX7_clear) dX7_clear_9 fl_7009 (x_kk rfl) (sl_lt hδ 1 rfl) (sl_s hδ 1 rfl rfl) (wf_7_1 hR hδ) ?_
  refine e_cS (M := mX7_clear) [] 0 0 dX7_clear_12 pa_7024 cc_7024 rfl rfl rfl rfl rfl (x_kk rfl) (x_kk rfl) rfl (n_copyL (Nat.le_refl _) (sl_lt hδ 2 rfl) (sl_shp hδ 2 rfl)) rfl ?_
  refine f_aload_n (M := mX7_clear) 16 dX7_clear_15 rfl rfl ?_
  refine e_getR (M := mX7_clear) dX7_clear_16 fl_7015 (x_kk rfl) (sl_lt hδ 1 rfl) (sl_s hδ 1 rfl rfl) (wf_7_2 hR hδ) ?_
  refine f_iconst (M := mX7_clear) 20 dX7_clear_19 ki_0 rfl ?_
  refine e_cS (M := mX7_clear) [] 0 0 dX7_clear_20 pa_7032 cc_7032 rfl rfl rfl rfl rfl (x_kk rfl) (x_kk rfl) rfl (c_J7_fill_53178 (sl_lt hδ 3 rfl) (sl_shp hδ 3 rfl) (by decide)) rfl ?_
  refine f_aload_n (M := mX7_clear) 24 dX7_clear_23 rfl rfl ?_
  refine e_getR (M := mX7_clear) dX7_clear_24 fl_7018 (x_kk rfl) (sl_lt hδ 1 rfl) (sl_s hδ 1 rfl rfl) (wf_7_3 hR hδ) ?_
  refine f_iconst (M := mX7_clear) 28 dX7_clear_27 ki_0 rfl ?_
  refine e_cS (M := mX7_clear) [] 0 0 dX7_clear_28 pa_7032 cc_7032 rfl rfl rfl rfl rfl (x_kk rfl) (x_kk rfl) rfl (c_J7_fill_53178 (sl_lt hδ 4 rfl) (sl_shp hδ 4 rfl) (by decide)) rfl ?_
  refine e_rv (M := mX7_clear) dX7_clear_31 rfl (x_kk rfl) (x_kk rfl) ?_
  exact (by simp only [x_up_ne _ _ (show δ + 1 ≠ δ + 2 by omega), x_up_ne _ _ (show δ + 1 ≠ δ + 3 by omega), x_up_ne _ _ (show δ + 1 ≠ δ + 4 by omega), x_up_ne _ _ (show δ + 2 ≠ δ + 1 by omega), x_up_ne _ _ (show δ + 2 ≠ δ + 3 by omega), x_up_ne _ _ (show δ + 2 ≠ δ + 4 by omega), x_up_ne _ _ (show δ + 3 ≠ δ + 1 by omega), x_up_ne _ _ (show δ + 3 ≠ δ + 2 by omega), x_up_ne _ _ (show δ + 3 ≠ δ + 4 by omega), x_up_ne _ _ (show δ + 4 ≠ δ + 1 by omega), x_up_ne _ _ (show δ + 4 ≠ δ + 2 by omega), x_up_ne _ _ (show δ + 4 ≠ δ + 3 by omega)])
theorem c_X2_clear (hR : x_wf R) {δ : Nat} (hδ : x_sl δ) : x_Cv X mX2_clear [.ref (δ + 5)] (I, L, R) 233 (.inl none, ((va_up (va_up I (δ + 5) (va_up (I (δ + 5)) 0 0)) (δ + 6) (y_z (I (δ + 6)) 0 180)), L, R), 233) := by
  show x_Ev X mX2_clear 0 [some (.ref (δ + 5))] [] ((I, L, R), 233, 0, 0) _
  refine f_aload_n (M := mX2_clear) 1 dX2_clear_0 rfl rfl ?_
  refine f_iconst (M := mX2_clear) 2 dX2_clear_1 ki_0 rfl ?_
  refine e_putI (M := mX2_clear) dX2_clear_2 fl_2015 (x_kk rfl) (sl_lt hδ 5 rfl) (sl_s hδ 5 rfl rfl) (fun q9 => Bool.noConfusion q9) ?_
  refine f_aload_n (M := mX2_clear) 6 dX2_clear_5 rfl rfl ?_
  refine e_getR (M := mX2_clear) dX2_clear_6 fl_2009 (x_kk rfl) (sl_lt hδ 5 rfl) (sl_s hδ 5 rfl rfl) (wf_2_1 hR hδ) ?_
  refine f_iconst (M := mX2_clear) 10 dX2_clear_9 ki_0 rfl ?_
  refine e_cS (M := mX2_clear) [] 0 0 dX2_clear_10 pa_2019 cc_2019 rfl rfl rfl rfl rfl (x_kk rfl) (x_kk rfl) rfl (c_J7_fill_53178 (sl_lt hδ 6 rfl) (sl_shp hδ 6 rfl) (by decide)) rfl ?_
  refine e_rv (M := mX2_clear) dX2_clear_13 rfl (x_kk rfl) (x_kk rfl) ?_
  exact (by simp only [x_up_ne _ _ (show δ + 5 ≠ δ + 6 by omega), x_up_ne _ _ (show δ + 6 ≠ δ + 5 by omega)])
theorem c_X1_clear (hR : x_wf R) {δ : Nat} (hδ : x_sl δ) : x_Cv X mX1_clear [.ref (δ + 12)] (I, L, R) 233 (.inl none, ((va_up (va_up (va_up (va_up I (δ + 13) (y_z (I (δ + 13)) 0 6)) (δ + 14) (y_z (I (δ + 14)) 0 6)) (δ + 15) (y_z (I (δ + 15)) 0 72)) (δ + 12) (va_up (va_up (va_up (I (δ + 12)) 4 (-1)) 5 0) 6 0)), (va_up (va_up L (δ + 16) (y_zl (L (δ + 16)) 36)) (δ + 12) (va_up (L (δ + 12)) 7 0)), R), 233) := by
  show x_Ev X mX1_clear 0 [some (.ref (δ + 12))] [] ((I, L, R), 233, 0, 0) _
  refine f_aload_n (M := mX1_clear) 1 dX1_clear_0 rfl rfl ?_
  refine e_getR (M := mX1_clear) dX1_clear_1 fl_1009 (x_kk rfl) (sl_lt hδ 12 rfl) (sl_s hδ 12 rfl rfl) (wf_1_0 hR hδ) ?_
  refine f_iconst (M := mX1_clear) 5 dX1_clear_4 ki_0 rfl ?_
  refine e_cS (M := mX1_clear) [] 0 0 dX1_clear_5 pa_1029 cc_1029 rfl rfl rfl rfl rfl (x_kk rfl) (x_kk rfl) rfl (c_J7_fill_53178 (sl_lt hδ 13 rfl) (sl_shp hδ 13 rfl) (by decide)) rfl ?_
  refine f_aload_n (M := mX1_clear) 9 dX1_clear_8 rfl rfl ?_
  refine e_getR (M := mX1_clear) dX1_clear_9 fl_1015 (x_kk rfl) (sl_lt hδ 12 rfl) (sl_s hδ 12 rfl rfl) (wf_1_1 hR hδ) ?_
  refine f_iconst (M := mX1_clear) 13 dX1_clear_12 ki_0 rfl ?_
  refine e_cS (M := mX1_clear) [] 0 0 dX1_clear_13 pa_1029 cc_1029 rfl rfl rfl rfl rfl (x_kk rfl) (x_kk rfl) rfl (c_J7_fill_53178 (sl_lt hδ 14 rfl) (sl_shp hδ 14 rfl) (by decide)) rfl ?_
  refine f_aload_n (M := mX1_clear) 17 dX1_clear_16 rfl rfl ?_
  refine e_getR (M := mX1_clear) dX1_clear_17 fl_1018 (x_kk rfl) (sl_lt hδ 12 rfl) (sl_s hδ 12 rfl rfl) (wf_1_2 hR hδ) ?_
  refine f_iconst (M := mX1_clear) 21 dX1_clear_20 ki_0 rfl ?_
  refine e_cS (M := mX1_clear) [] 0 0 dX1_clear_21 pa_1029 cc_1029 rfl rfl rfl rfl rfl (x_kk rfl) (x_kk rfl) rfl (c_J7_fill_53178 (sl_lt hδ 15 rfl) (sl_shp hδ 15 rfl) (by decide)) rfl ?_
  refine f_aload_n (M := mX1_clear) 25 dX1_clear_24 rfl rfl ?_
  refine e_getR (M := mX1_clear) dX1_clear_25 fl_1021 (x_kk rfl) (sl_lt hδ 12 rfl) (sl_s hδ 12 rfl rfl) (wf_1_3 hR hδ) ?_
  refine f_lconst (M := mX1_clear) 29 dX1_clear_28 kl_0 rfl ?_
  refine e_cS (M := mX1_clear) [] 0 0 dX1_clear_29 pa_1035 cc_1035 rfl rfl rfl rfl rfl (x_kk rfl) (x_kk rfl) rfl (c_J7_fill_d0a16 (sl_lt hδ 16 rfl) (sl_shp hδ 16 rfl) (by decide)) rfl ?_
  refine f_aload_n (M := mX1_clear) 33 dX1_clear_32 rfl rfl ?_
  refine f_iconst (M := mX1_clear) 34 dX1_clear_33 ki_m1 rfl ?_
  refine e_putI (M := mX1_clear) dX1_clear_34 fl_1025 (x_kk rfl) (sl_lt hδ 12 rfl) (sl_s hδ 12 rfl rfl) (fun q9 => Bool.noConfusion q9) ?_
  refine f_aload_n (M := mX1_clear) 38 dX1_clear_37 rfl rfl ?_
  refine f_iconst (M := mX1_clear) 39 dX1_clear_38 ki_0 rfl ?_
  refine e_putI (M := mX1_clear) dX1_clear_39 fl_1038 (x_kk rfl) (sl_lt hδ 12 rfl) (sl_s hδ 12 rfl rfl) (fun q9 => Bool.noConfusion q9) ?_
  refine f_aload_n (M := mX1_clear) 43 dX1_clear_42 rfl rfl ?_
  refine f_iconst (M := mX1_clear) 44 dX1_clear_43 ki_0 rfl ?_
  refine e_putI (M := mX1_clear) dX1_clear_44 fl_1041 (x_kk rfl) (sl_lt hδ 12 rfl) (sl_s hδ 12 rfl rfl) (fun q9 => Bool.noConfusion q9) ?_
  refine f_aload_n (M := mX1_clear) 48 dX1_clear_47 rfl rfl ?_
  refine f_lconst (M := mX1_clear) 49 dX1_clear_48 kl_0 rfl ?_
  refine e_putL (M := mX1_clear) dX1_clear_49 fl_1044 (x_kk rfl) (sl_lt hδ 12 rfl) (sl_s hδ 12 rfl rfl) (fun q9 => Bool.noConfusion q9) ?_
  refine e_rv (M := mX1_clear) dX1_clear_52 rfl (x_kk rfl) (x_kk rfl) ?_
  exact (by simp only [x_up_self, up_up, x_up_ne _ _ (show δ + 12 ≠ δ + 13 by omega), x_up_ne _ _ (show δ + 12 ≠ δ + 14 by omega), x_up_ne _ _ (show δ + 12 ≠ δ + 15 by omega), x_up_ne _ _ (show δ + 12 ≠ δ + 16 by omega), x_up_ne _ _ (show δ + 13 ≠ δ + 12 by omega), x_up_ne _ _ (show δ + 13 ≠ δ + 14 by omega), x_up_ne _ _ (show δ + 13 ≠ δ + 15 by omega), x_up_ne _ _ (show δ + 13 ≠ δ + 16 by omega), x_up_ne _ _ (show δ + 14 ≠ δ + 12 by omega), x_up_ne _ _ (show δ + 14 ≠ δ + 13 by omega), x_up_ne _ _ (show δ + 14 ≠ δ + 15 by omega), x_up_ne _ _ (show δ + 14 ≠ δ + 16 by omega), x_up_ne _ _ (show δ + 15 ≠ δ + 12 by omega), x_up_ne _ _ (show δ + 15 ≠ δ + 13 by omega), x_up_ne _ _ (show δ + 15 ≠ δ + 14 by omega), x_up_ne _ _ (show δ + 15 ≠ δ + 16 by omega), x_up_ne _ _ (show δ + 16 ≠ δ + 12 by omega), x_up_ne _ _ (show δ + 16 ≠ δ + 13 by omega), x_up_ne _ _ (show δ + 16 ≠ δ + 14 by omega), x_up_ne _ _ (show δ + 16 ≠ δ + 15 by omega)])
theorem c_X4_clear (hR : x_wf R) {δ : Nat} (hδ : x_sl δ) : x_Cv X mX4_clear [.ref (δ + 17)] (I, L, R) 233 (.inl none, ((va_up I (δ + 17) (va_up (va_up (va_up (I (δ + 17)) 0 0) 1 0) 2 0)), L, R), 233) := by
  show x_Ev X mX4_clear 0 [some (.ref (δ + 17))] [] ((I, L, R), 233, 0, 0) _
  refine f_aload_n (M := mX4_clear) 1 dX4_clear_0 rfl rfl ?_
  refine f_iconst (M := mX4_clear) 2 dX4_clear_1 ki_0 rfl ?_
  refine e_putI (M := mX4_clear) dX4_clear_2 fl_4024 (x_kk rfl) (sl_lt hδ 17 rfl) (sl_s hδ 17 rfl rfl) (fun q9 => Bool.noConfusion q9) ?_
  refine f_aload_n (M := mX4_clear) 6 dX4_clear_5 rfl rfl ?_
  refine f_iconst (M := mX4_clear) 7 dX4_clear_6 ki_0 rfl ?_
  refine e_putI (M := mX4_clear) dX4_clear_7 fl_4028 (x_kk rfl) (sl_lt hδ 17 rfl) (sl_s hδ 17 rfl rfl) (fun q9 => Bool.noConfusion q9) ?_
  refine f_aload_n (M := mX4_clear) 11 dX4_clear_10 rfl rfl ?_
  refine f_iconst (M := mX4_clear) 12 dX4_clear_11 ki_0 rfl ?_
  refine e_putI (M := mX4_clear) dX4_clear_12 fl_4031 (x_kk rfl) (sl_lt hδ 17 rfl) (sl_s hδ 17 rfl rfl) (fun q9 => Bool.noConfusion q9) ?_
  refine e_rv (M := mX4_clear) dX4_clear_15 rfl (x_kk rfl) (x_kk rfl) ?_
  exact (by simp only [x_up_self, up_up])
end

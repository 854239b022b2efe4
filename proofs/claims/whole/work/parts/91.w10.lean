/-! ===== changes of both, tenth: plots (laid by wip/whole/src/w10.py) ===== -/
section
variable {X : x_X} {I : Nat → Nat → Int32} {L : Nat → Nat → Int64} {R : Nat → Nat → Option Nat} {N : Nat}
theorem c_X2_remove (hR : x_wf R) {β : Nat} (hβ : x_sl β) {p Np : Nat} (hpp : p < Np) (hNp : Np ≤ 30) (hp : I (β + 5) 0 = Int32.ofNat Np) : x_Cv X mX2_remove [.ref (β + 5), .int (Int32.ofNat p)] (I, L, R) 233 (.inl none, ((va_up (va_up I (β + 6) (va_cpy (I (β + 6)) (I (β + 6)) (p * 6 + 6) (p * 6) ((Np - 1 - p) * 6))) (β + 5) (va_up (I (β + 5)) 0 (I (β + 5) 0 - 1))), L, R), 233) := by
  show x_Ev X mX2_remove 0 [some (.ref (β + 5)), some (.int (Int32.ofNat p)), none, none] [] ((I, L, R), 233, 0, 0) _
  refine f_iload_n (M := mX2_remove) 1 dX2_remove_0 rfl rfl ?_
  refine f_bipush (M := mX2_remove) 3 dX2_remove_1 kb_6 rfl ?_
  refine f_imul (M := mX2_remove) 4 dX2_remove_3 rfl ?_
  refine f_istore_n (M := mX2_remove) (ls' := [_, _, _, _]) 5 dX2_remove_4 rfl rfl rfl ?_
  refine f_aload_n (M := mX2_remove) 6 dX2_remove_5 rfl rfl ?_
  refine e_getI (M := mX2_remove) dX2_remove_6 fl_2015 (x_kk rfl) (sl_lt hβ 5 rfl) (sl_s hβ 5 rfl rfl) ?_
  refine f_iconst (M := mX2_remove) 10 dX2_remove_9 ki_1 rfl ?_
  refine f_isub (M := mX2_remove) 11 dX2_remove_10 rfl ?_
  refine f_iload_n (M := mX2_remove) 12 dX2_remove_11 rfl rfl ?_
  refine f_isub (M := mX2_remove) 13 dX2_remove_12 rfl ?_
  refine f_bipush (M := mX2_remove) 15 dX2_remove_13 kb_6 rfl ?_
  refine f_imul (M := mX2_remove) 16 dX2_remove_15 rfl ?_
  refine f_istore_n (M := mX2_remove) (ls' := [_, _, _, _]) 17 dX2_remove_16 rfl rfl rfl ?_
  refine f_aload_n (M := mX2_remove) 18 dX2_remove_17 rfl rfl ?_
  refine e_getR (M := mX2_remove) dX2_remove_18 fl_2009 (x_kk rfl) (sl_lt hβ 5 rfl) (sl_s hβ 5 rfl rfl) (wf_2_1 hR hβ) ?_
  refine f_iload_n (M := mX2_remove) 22 dX2_remove_21 rfl rfl ?_
  refine f_bipush (M := mX2_remove) 24 dX2_remove_22 kb_6 rfl ?_
  refine f_iadd (M := mX2_remove) 25 dX2_remove_24 rfl ?_
  refine f_aload_n (M := mX2_remove) 26 dX2_remove_25 rfl rfl ?_
  refine e_getR (M := mX2_remove) dX2_remove_26 fl_2009 (x_kk rfl) (sl_lt hβ 5 rfl) (sl_s hβ 5 rfl rfl) (wf_2_1 hR hβ) ?_
  refine f_iload_n (M := mX2_remove) 30 dX2_remove_29 rfl rfl ?_
  refine f_iload_n (M := mX2_remove) 31 dX2_remove_30 rfl rfl ?_
  refine e_cpyI (M := mX2_remove) (wb := 180) (m := (((Np) - (1)) - (p)) * (6)) (s := ((p) * (6)) + (6)) (d := (p) * (6)) dX2_remove_31 ct_2029 (x_kk rfl) (x_arr_w (sl_lt hβ 6 rfl) (sl_shp hβ 6 rfl)) (sl_lt hβ 6 rfl) (sl_shp hβ 6 rfl) (ix_add (ix_mul rfl kn_6) kn_6) (ix_mul rfl kn_6) (ix_mul (ix_sub (ix_sub hp kn_1 (by omega)) rfl (by omega)) kn_6) (by omega) (by omega) (by omega) (x_kk rfl) ?_
  refine f_aload_n (M := mX2_remove) 35 dX2_remove_34 rfl rfl ?_
  refine f_dup (M := mX2_remove) 36 dX2_remove_35 rfl rfl ?_
  refine e_getI (M := mX2_remove) dX2_remove_36 fl_2015 (x_kk rfl) (sl_lt hβ 5 rfl) (sl_s hβ 5 rfl rfl) ?_
  refine f_iconst (M := mX2_remove) 40 dX2_remove_39 ki_1 rfl ?_
  refine f_isub (M := mX2_remove) 41 dX2_remove_40 rfl ?_
  refine e_putI (M := mX2_remove) dX2_remove_41 fl_2015 (x_kk rfl) (sl_lt hβ 5 rfl) (sl_s hβ 5 rfl rfl) (fun q9 => Bool.noConfusion q9) ?_
  refine e_rv (M := mX2_remove) dX2_remove_44 rfl (x_kk rfl) (x_kk rfl) ?_
  exact (by simp only [x_up_ne _ _ (show β + 5 ≠ β + 6 by omega)])
theorem kx_removePlot {N β : Nat} {a : Nat → Int32} {b : Nat → Int64} (H : y_CS N I L R β a b) {Ns Np Nl Nm : Nat} (Z : y_Z a Ns Np Nl Nm) {I0 : Nat → Nat → Int32} {L0 : Nat → Nat → Int64} (hk : x_Cv X mX3_keep [.ref 3, .ref β] (I, L, R) 233 (.inl none, (I0, L0, R), 233)) (H1 : y_CS N I0 L0 R β a b) {p : Nat} (hpp : p < Np) (h1 : a 0 = 0)  : x_Cv X mX8_removePlot [.ref 0, .int (Int32.ofNat p)] (I, L, R) 233 (.inl (some (.int (Int32.ofNat (Np - 1)))), ((va_up (va_up I0 (β + 6) (va_cpy (I0 (β + 6)) (I0 (β + 6)) (p * 6 + 6) (p * 6) ((Np - 1 - p) * 6))) (β + 5) (va_up (I0 (β + 5)) 0 (Int32.ofNat (Np - 1)))), L0, R), 233) := by
  obtain ⟨hNs, hn, hNp, hp, hNl, hl, hNm, hmm⟩ := Z
  have hR := h_R H
  have hβ := h_β H
  have hS := h_S H
  show x_Ev X mX8_removePlot 0 [some (.ref 0), some (.int (Int32.ofNat p))] [] ((I, L, R), 233, 0, 0) _
  refine f_iload_n (M := mX8_removePlot) 1 dX8_removePlot_0 rfl rfl ?_
  refine f_iconst (M := mX8_removePlot) 2 dX8_removePlot_1 ki_0 rfl ?_
  refine f_aload_n (M := mX8_removePlot) 3 dX8_removePlot_2 rfl rfl ?_
  refine e_getR (M := mX8_removePlot) dX8_removePlot_3 fl_8026 (x_kk rfl) (x_kk rfl) rfl hS ?_
  refine e_getR (M := mX8_removePlot) dX8_removePlot_6 fl_8070 (x_kk rfl) (sl_lt hβ 0 rfl) (sl_s hβ 0 rfl rfl) (wf_6_2 hR hβ) ?_
  refine e_getI (M := mX8_removePlot) dX8_removePlot_9 fl_8074 (x_kk rfl) (sl_lt hβ 5 rfl) (sl_s hβ 5 rfl rfl) ?_
  refine f_iconst (M := mX8_removePlot) 13 dX8_removePlot_12 ki_1 rfl ?_
  refine f_isub (M := mX8_removePlot) 14 dX8_removePlot_13 rfl ?_
  refine e_cS (M := mX8_removePlot) [_] 0 0 dX8_removePlot_14 pa_8049 cc_8049 rfl rfl rfl rfl rfl (x_kk rfl) (x_kk rfl) rfl (c_X8_isIn (lo := 0)) rfl ?_
  refine e_cS (M := mX8_removePlot) [] 1 6 dX8_removePlot_17 pa_8103 cc_8103 rfl rfl rfl rfl rfl (x_kk rfl) (x_kk rfl) rfl (c_X8_requireExisting (x_bn (by rw [(h_C H).1]; exact (in_ok hp (by omega) hpp)))) rfl ?_
  refine f_aload_n (M := mX8_removePlot) 21 dX8_removePlot_20 rfl rfl ?_
  refine e_getR (M := mX8_removePlot) dX8_removePlot_21 fl_8026 (x_kk rfl) (x_kk rfl) rfl hS ?_
  refine e_getI (M := mX8_removePlot) dX8_removePlot_24 fl_8067 (x_kk rfl) (sl_lt hβ 0 rfl) (sl_s hβ 0 rfl rfl) ?_
  refine e_if_neF (M := mX8_removePlot) 34 dX8_removePlot_27 rfl (fun z => z (by rw [h_ph H]; exact h1)) ?_
  refine f_iconst (M := mX8_removePlot) 31 dX8_removePlot_30 ki_1 rfl ?_
  refine f_goto (M := mX8_removePlot) 35 dX8_removePlot_31 rfl ?_
  refine e_cS (M := mX8_removePlot) [] 2 12 dX8_removePlot_35 pa_8037 cc_8037 rfl rfl rfl rfl rfl (x_kk rfl) (x_kk rfl) rfl (c_X8_requireState (by decide)) rfl ?_
  refine f_aload_n (M := mX8_removePlot) 39 dX8_removePlot_38 rfl rfl ?_
  refine e_getR (M := mX8_removePlot) dX8_removePlot_39 fl_8019 (x_kk rfl) (x_kk rfl) rfl (wf_8_1 hR) ?_
  refine f_aload_n (M := mX8_removePlot) 43 dX8_removePlot_42 rfl rfl ?_
  refine e_getR (M := mX8_removePlot) dX8_removePlot_43 fl_8026 (x_kk rfl) (x_kk rfl) rfl hS ?_
  refine e_cV (M := mX8_removePlot) [] 2 12 dX8_removePlot_46 pa_8060 pb_8060 cc_8060 rfl rfl rfl rfl rfl (x_kk rfl) (x_kk rfl) rfl (hk) rfl ?_
  refine f_aload_n (M := mX8_removePlot) 50 dX8_removePlot_49 rfl rfl ?_
  refine e_getR (M := mX8_removePlot) dX8_removePlot_50 fl_8026 (x_kk rfl) (x_kk rfl) rfl hS ?_
  refine e_getR (M := mX8_removePlot) dX8_removePlot_53 fl_8070 (x_kk rfl) (sl_lt hβ 0 rfl) (sl_s hβ 0 rfl rfl) (wf_6_2 hR hβ) ?_
  refine f_iload_n (M := mX8_removePlot) 57 dX8_removePlot_56 rfl rfl ?_
  refine e_cV (M := mX8_removePlot) [] 2 12 dX8_removePlot_57 pa_8106 pb_8106 cc_8106 rfl rfl rfl rfl rfl (x_kk rfl) (x_kk rfl) (x_rcvOK (sl_lt hβ 5 rfl) (sl_s hβ 5 rfl rfl) rfl) (c_X2_remove hR hβ hpp hNp ((h_C H1).1.trans hp)) rfl ?_
  refine f_aload_n (M := mX8_removePlot) 61 dX8_removePlot_60 rfl rfl ?_
  refine e_getR (M := mX8_removePlot) dX8_removePlot_61 fl_8026 (x_kk rfl) (x_kk rfl) rfl hS ?_
  refine e_getR (M := mX8_removePlot) dX8_removePlot_64 fl_8070 (x_kk rfl) (sl_lt hβ 0 rfl) (sl_s hβ 0 rfl rfl) (wf_6_2 hR hβ) ?_
  refine e_getI (M := mX8_removePlot) dX8_removePlot_67 fl_8074 (x_kk rfl) (sl_lt hβ 5 rfl) (sl_s hβ 5 rfl rfl) ?_
  refine e_ri (M := mX8_removePlot) dX8_removePlot_70 rfl (x_kk rfl) (x_kk rfl) ?_
  exact (by simp only [x_up_self, (h_C H1).1, hp]; rw [ix_sub (j := Np) (k := 1) rfl kn_1 (by omega)])
theorem l_X9_removePlot (hR : x_wf R) {p n : Nat} (hq : p ≤ n) (hn : n < 30) (hl : I 226 9 = Int32.ofNat n) : ∀ d k, k + d = 6 * (n - p) → x_Ev X mX9_removePlot 70 [some (.ref 225), some (.int (Int32.ofNat p)), some (.int (Int32.ofNat (6 * p + k)))] [] (((va_up I 226 (y_sf (I 226) (44 + 6 * p) 6 k)), L, R), 233, 0, 0) (.inl (some (.int (Int32.ofNat n))), ((va_up I 226 (y_sf (I 226) (44 + 6 * p) 6 (6 * (n - p)))), L, R), 233) := by
  intro d
  induction d with
  | zero =>
    intro k hd
    obtain rfl : 6 * (n - p) = k := hd.symm
    refine f_iload_n (M := mX9_removePlot) 71 dX9_removePlot_70 rfl rfl ?_
    refine f_bipush (M := mX9_removePlot) 73 dX9_removePlot_71 kb_6 rfl ?_
    refine f_aload_n (M := mX9_removePlot) 74 dX9_removePlot_73 rfl rfl ?_
    refine e_getR (M := mX9_removePlot) dX9_removePlot_74 fl_9007 (x_kk rfl) (x_kk rfl) rfl (wf_9_0 hR) ?_
    refine f_bipush (M := mX9_removePlot) 79 dX9_removePlot_77 kb_9 rfl ?_
    refine e_ild (M := mX9_removePlot) (w := 606) (j := 9) dX9_removePlot_79 (x_kk rfl) rfl kn_9 (by omega) (by omega) ?_
    refine f_imul (M := mX9_removePlot) 81 dX9_removePlot_80 rfl ?_
    refine e_icmp_geT (M := mX9_removePlot) 111 dX9_removePlot_81 rfl (by rw [up_s, sf_o (by omega), hl, show (6 : Int32) * Int32.ofNat n = Int32.ofNat (6 * n) from ix_mul kn_6 rfl, n_le (by omega) (by omega)]; omega) ?_
    refine f_aload_n (M := mX9_removePlot) 112 dX9_removePlot_111 rfl rfl ?_
    refine e_getR (M := mX9_removePlot) dX9_removePlot_112 fl_9007 (x_kk rfl) (x_kk rfl) rfl (wf_9_0 hR) ?_
    refine f_bipush (M := mX9_removePlot) 117 dX9_removePlot_115 kb_9 rfl ?_
    refine e_ild (M := mX9_removePlot) (w := 606) (j := 9) dX9_removePlot_117 (x_kk rfl) rfl kn_9 (by omega) (by omega) ?_
    refine e_ri (M := mX9_removePlot) dX9_removePlot_118 rfl (x_kk rfl) (x_kk rfl) ?_
    exact (by rw [up_s, sf_o (by omega), hl])
  | succ d ih =>
    intro k hd
    refine f_iload_n (M := mX9_removePlot) 71 dX9_removePlot_70 rfl rfl ?_
    refine f_bipush (M := mX9_removePlot) 73 dX9_removePlot_71 kb_6 rfl ?_
    refine f_aload_n (M := mX9_removePlot) 74 dX9_removePlot_73 rfl rfl ?_
    refine e_getR (M := mX9_removePlot) dX9_removePlot_74 fl_9007 (x_kk rfl) (x_kk rfl) rfl (wf_9_0 hR) ?_
    refine f_bipush (M := mX9_removePlot) 79 dX9_removePlot_77 kb_9 rfl ?_
    refine e_ild (M := mX9_removePlot) (w := 606) (j := 9) dX9_removePlot_79 (x_kk rfl) rfl kn_9 (by omega) (by omega) ?_
    refine f_imul (M := mX9_removePlot) 81 dX9_removePlot_80 rfl ?_
    refine e_icmp_geF (M := mX9_removePlot) 111 dX9_removePlot_81 rfl (by rw [up_s, sf_o (by omega), hl, show (6 : Int32) * Int32.ofNat n = Int32.ofNat (6 * n) from ix_mul kn_6 rfl, n_le (by omega) (by omega)]; omega) ?_
    refine f_aload_n (M := mX9_removePlot) 85 dX9_removePlot_84 rfl rfl ?_
    refine e_getR (M := mX9_removePlot) dX9_removePlot_85 fl_9007 (x_kk rfl) (x_kk rfl) rfl (wf_9_0 hR) ?_
    refine f_bipush (M := mX9_removePlot) 90 dX9_removePlot_88 kb_44 rfl ?_
    refine f_iload_n (M := mX9_removePlot) 91 dX9_removePlot_90 rfl rfl ?_
    refine f_iadd (M := mX9_removePlot) 92 dX9_removePlot_91 rfl ?_
    refine f_aload_n (M := mX9_removePlot) 93 dX9_removePlot_92 rfl rfl ?_
    refine e_getR (M := mX9_removePlot) dX9_removePlot_93 fl_9007 (x_kk rfl) (x_kk rfl) rfl (wf_9_0 hR) ?_
    refine f_bipush (M := mX9_removePlot) 98 dX9_removePlot_96 kb_44 rfl ?_
    refine f_iload_n (M := mX9_removePlot) 99 dX9_removePlot_98 rfl rfl ?_
    refine f_iadd (M := mX9_removePlot) 100 dX9_removePlot_99 rfl ?_
    refine f_bipush (M := mX9_removePlot) 102 dX9_removePlot_100 kb_6 rfl ?_
    refine f_iadd (M := mX9_removePlot) 103 dX9_removePlot_102 rfl ?_
    refine e_ild (M := mX9_removePlot) (w := 606) (j := ((44) + (6 * p + k)) + (6)) dX9_removePlot_103 (x_kk rfl) rfl (ix_add (ix_add kn_44 rfl) kn_6) (by omega) (by omega) ?_
    refine e_ist (M := mX9_removePlot) (w := 606) (j := (44) + (6 * p + k)) dX9_removePlot_104 (x_kk rfl) rfl (ix_add kn_44 rfl) (by omega) (by omega) ?_
    refine f_iinc (M := mX9_removePlot) (ls' := [_, _, _]) 108 dX9_removePlot_105 ki_1 rfl rfl rfl rfl ?_
    refine f_goto (M := mX9_removePlot) 70 dX9_removePlot_108 rfl ?_
    rw [n_inc, up_s, up_up, sf_o (show ¬ (44 + 6 * p ≤ 44 + (6 * p + k) + 6 ∧ 44 + (6 * p + k) + 6 < 44 + 6 * p + k) by omega), show 44 + (6 * p + k) = 44 + 6 * p + k by omega, sf_s]; exact ih (k + 1) (by omega)
theorem mx_removePlot (hR : x_wf R) {a : Nat → Int32} (ha : I 226 = a) {Ns Np Nl Nm : Nat} (Z : y_Z a Ns Np Nl Nm) {I0 : Nat → Nat → Int32} {L0 : Nat → Nat → Int64} (hk : x_Cv X mX9_keeps [.ref 225] (x_tw I 0, L, R) 233 (.inl none, (I0, L0, R), 233)) (ha0 : I0 226 = a) {p : Nat} (hpp : p < Np) (h1 : a 0 = 0)  : x_Cv X mX9_removePlot [.ref 225, .int (Int32.ofNat p)] (I, L, R) 233 (.inl (some (.int (Int32.ofNat (Np - 1)))), (va_up I0 226 (y_sf (va_up a 9 (Int32.ofNat (Np - 1))) (44 + 6 * p) 6 (6 * (Np - 1 - p))), L0, R), 233) := by
  subst ha
  obtain ⟨hNs, hn, hNp, hp, hNl, hl, hNm, hmm⟩ := Z
  show x_Ev X mX9_removePlot 0 [some (.ref 225), some (.int (Int32.ofNat p)), none] [] ((I, L, R), 233, 0, 0) _
  refine f_aload_n (M := mX9_removePlot) 1 dX9_removePlot_0 rfl rfl ?_
  refine f_iload_n (M := mX9_removePlot) 2 dX9_removePlot_1 rfl rfl ?_
  refine f_i2l (M := mX9_removePlot) 3 dX9_removePlot_2 rfl ?_
  refine f_lconst (M := mX9_removePlot) 4 dX9_removePlot_3 kl_0 rfl ?_
  refine f_aload_n (M := mX9_removePlot) 5 dX9_removePlot_4 rfl rfl ?_
  refine e_getR (M := mX9_removePlot) dX9_removePlot_5 fl_9007 (x_kk rfl) (x_kk rfl) rfl (wf_9_0 hR) ?_
  refine f_bipush (M := mX9_removePlot) 10 dX9_removePlot_8 kb_9 rfl ?_
  refine e_ild (M := mX9_removePlot) (w := 606) (j := 9) dX9_removePlot_10 (x_kk rfl) rfl kn_9 (by omega) (by omega) ?_
  refine f_iconst (M := mX9_removePlot) 12 dX9_removePlot_11 ki_1 rfl ?_
  refine f_isub (M := mX9_removePlot) 13 dX9_removePlot_12 rfl ?_
  refine f_i2l (M := mX9_removePlot) 14 dX9_removePlot_13 rfl ?_
  refine e_cS (M := mX9_removePlot) [_, _] 0 0 dX9_removePlot_14 pa_9074 cc_9074 rfl rfl rfl rfl rfl (x_kk rfl) (x_kk rfl) rfl (c_X9_isInI (lo := 0)) rfl ?_
  refine e_if_neT (M := mX9_removePlot) 24 dX9_removePlot_17 rfl (x_bn (in_ok hp (by omega) hpp)) ?_
  refine f_aload_n (M := mX9_removePlot) 25 dX9_removePlot_24 rfl rfl ?_
  refine e_getR (M := mX9_removePlot) dX9_removePlot_25 fl_9007 (x_kk rfl) (x_kk rfl) rfl (wf_9_0 hR) ?_
  refine f_iconst (M := mX9_removePlot) 29 dX9_removePlot_28 ki_0 rfl ?_
  refine e_ild (M := mX9_removePlot) (w := 606) (j := 0) dX9_removePlot_29 (x_kk rfl) rfl kn_0 (by omega) (by omega) ?_
  refine e_if_eqT (M := mX9_removePlot) 37 dX9_removePlot_30 rfl h1 ?_
  refine f_iconst (M := mX9_removePlot) 38 dX9_removePlot_37 ki_0 rfl ?_
  refine e_putI (M := mX9_removePlot) dX9_removePlot_38 fl_9033 (x_kk rfl) (x_kk rfl) rfl (fun q9 => Bool.noConfusion q9) ?_
  refine f_aload_n (M := mX9_removePlot) 42 dX9_removePlot_41 rfl rfl ?_
  refine e_getI (M := mX9_removePlot) dX9_removePlot_42 fl_9033 (x_kk rfl) (x_kk rfl) rfl ?_
  refine e_if_leT (M := mX9_removePlot) 50 dX9_removePlot_45 rfl (show (0 : Int32) ≤ 0 by decide) ?_
  refine f_aload_n (M := mX9_removePlot) 51 dX9_removePlot_50 rfl rfl ?_
  refine e_cV (M := mX9_removePlot) [] 0 0 dX9_removePlot_51 pa_9128 pb_9128 cc_9128 rfl rfl rfl rfl rfl (x_kk rfl) (x_kk rfl) rfl (hk) rfl ?_
  refine f_aload_n (M := mX9_removePlot) 55 dX9_removePlot_54 rfl rfl ?_
  refine e_getR (M := mX9_removePlot) dX9_removePlot_55 fl_9007 (x_kk rfl) (x_kk rfl) rfl (wf_9_0 hR) ?_
  refine f_bipush (M := mX9_removePlot) 60 dX9_removePlot_58 kb_9 rfl ?_
  refine f_dup2 (M := mX9_removePlot) 61 dX9_removePlot_60 rfl rfl rfl ?_
  refine e_ild (M := mX9_removePlot) (w := 606) (j := 9) dX9_removePlot_61 (x_kk rfl) rfl kn_9 (by omega) (by omega) ?_
  refine f_iconst (M := mX9_removePlot) 63 dX9_removePlot_62 ki_1 rfl ?_
  refine f_isub (M := mX9_removePlot) 64 dX9_removePlot_63 rfl ?_
  refine e_ist (M := mX9_removePlot) (w := 606) (j := 9) dX9_removePlot_64 (x_kk rfl) rfl kn_9 (by omega) (by omega) ?_
  refine f_bipush (M := mX9_removePlot) 67 dX9_removePlot_65 kb_6 rfl ?_
  refine f_iload_n (M := mX9_removePlot) 68 dX9_removePlot_67 rfl rfl ?_
  refine f_imul (M := mX9_removePlot) 69 dX9_removePlot_68 rfl ?_
  refine f_istore_n (M := mX9_removePlot) (ls' := [_, _, _]) 70 dX9_removePlot_69 rfl rfl rfl ?_
  have l1 := l_X9_removePlot (X := X) (I := va_up I0 226 (va_up (I 226) 9 (Int32.ofNat (Np - 1)))) (L := L0) (p := p) (n := Np - 1) hR (by omega) (by omega) rfl (6 * (Np - 1 - p)) 0 (by omega); rw [sf_0, up_self] at l1; simp only [x_up_self, up_up] at l1; rw [ha0, hp, ix_sub (j := Np) (k := 1) rfl kn_1 (by omega), show (6 : Int32) * Int32.ofNat p = Int32.ofNat (6 * p + 0) from ix_mul kn_6 rfl]; exact l1
section
variable {β : Nat} {a : Nat → Int32}
theorem rp_j {p n j : Nat} {x : Int32} (h : ¬ (44 ≤ j ∧ j < 224)) (hn : n ≤ 30) (hp : p < n) (h2 : ¬ j = 9) : y_sf (va_up a 9 x) (44 + 6 * p) 6 (6 * (n - 1 - p)) j = a j := by rw [sf_o (by omega), x_up_ne _ _ h2]
theorem RC_rp {n p : Nat} (hn : n ≤ 30) (hp : p < n) (h : y_RC I β a) : y_RC (va_up (va_up I (β + 6) (va_cpy (I (β + 6)) (I (β + 6)) (p * 6 + 6) (p * 6) ((n - 1 - p) * 6))) (β + 5) (va_up (I (β + 5)) 0 (Int32.ofNat (n - 1)))) β (y_sf (va_up a 9 (Int32.ofNat (n - 1))) (44 + 6 * p) 6 (6 * (n - 1 - p))) := by
  obtain ⟨h1, h2⟩ := h
  unfold y_RC
  rw [x_up_self, x_up_ne _ _ (show β + 6 ≠ β + 5 by omega), x_up_self, sf_o (by omega), x_up_self, x_up_self]
  refine ⟨rfl, fun j hj => ?_⟩
  unfold va_cpy
  by_cases c : p * 6 ≤ j ∧ j < p * 6 + (n - 1 - p) * 6
  · rw [if_pos c, sf_i (by omega), x_up_ne _ _ (by omega), h2 _ (by omega)]
    congr 1
    omega
  · rw [if_neg c, sf_o (by omega), x_up_ne _ _ (by omega)]; exact h2 j hj
theorem IC_rp {n p : Nat} (hn : n ≤ 30) (h9 : a 9 = Int32.ofNat n) (hp : p < n) (h : y_IC a) : y_IC (y_sf (va_up a 9 (Int32.ofNat (n - 1))) (44 + 6 * p) 6 (6 * (n - 1 - p))) := by
  obtain ⟨⟨m, hm, h9', hle⟩, h2⟩ := h
  have : m = n := by rw [h9, n_eq (by omega) (by omega)] at h9'; omega
  refine ⟨⟨n - 1, by omega, by rw [sf_o (by omega), x_up_self], by rw [sf_o (by omega), x_up_ne _ _ (by omega)]; omega⟩, fun j hj => ?_⟩
  by_cases c : 44 + 6 * p ≤ 44 + j ∧ 44 + j < 44 + 6 * p + 6 * (n - 1 - p)
  · rw [sf_i c, x_up_ne _ _ (by omega), show 44 + j + 6 = 44 + (j + 6) by omega]
    exact h2 (j + 6) (by omega)
  · rw [sf_o c, x_up_ne _ _ (by omega)]; exact h2 j hj
end
theorem sim_removePlot (T : y_T N I L R) {v : Int32} : y_OI N X mL_removePlot [.ref 0, .int v, .ref 232] mX9_removePlot [.ref 225, .int v] I L R := by
  have T0 := T
  obtain ⟨a, b, kn, ks, bf, bn, ep, ⟨β, δ, γ, ν, hB⟩, hM, hI⟩ := T
  have H : y_CS N I L R β a b := ⟨hM.1, hB.1.2.1, hB.1.2.2.2.2.1, hB.2.2.2.2.2.1, hI.1⟩
  obtain ⟨Ns, Np, Nl, Nm, Z⟩ := Z_of hI.1
  have hR := hM.1
  have ha : I 226 = a := hM.2.1
  have hb : L 229 = b := hM.2.2.1
  subst ha
  subst hb
  obtain ⟨hNs, hn, hNp, hp, hNl, hl, hNm, hmm⟩ := id Z
  by_cases h0 : 0 ≤ v ∧ v ≤ I 226 9 - 1
  · obtain ⟨p, hpp, rfl⟩ := in_of hp (by omega) h0
    by_cases h1 : I 226 0 = 0
    · skip
      obtain ⟨I0, L0, hk, S1, fr, sm⟩ := keep_ok (X := X) hB (h60_of (h_IL H))
      have H1 : y_CS N I0 L0 R β (I 226) (L 229) := ⟨hR, h_β H, h_S H, S1.2.2.2.2.2.1, hI.1⟩
      have hβ := h_β H
      have k1 := w_removePlot (kx_removePlot H Z hk H1 hpp h1 )
      have out : ∀ cc, (∀ j, j < 22 → ¬ cc = β + j) → (va_up (va_up I0 (β + 6) (va_cpy (I0 (β + 6)) (I0 (β + 6)) (p * 6 + 6) (p * 6) ((Np - 1 - p) * 6))) (β + 5) (va_up (I0 (β + 5)) 0 (Int32.ofNat (Np - 1)))) cc = I0 cc ∧ L0 cc = L0 cc := fun cc ho => ⟨(by rw [x_up_ne _ _ (ho 5 (by decide)), x_up_ne _ _ (ho 6 (by decide))]), rfl⟩
      have M1 := SM_f (I' := (va_up (va_up I0 (β + 6) (va_cpy (I0 (β + 6)) (I0 (β + 6)) (p * 6 + 6) (p * 6) ((Np - 1 - p) * 6))) (β + 5) (va_up (I0 (β + 5)) 0 (Int32.ofNat (Np - 1))))) (L' := va_up L0 232 (va_up (L0 232) 0 (Int32.ofNat (Np - 1)).toInt64)) hM hR (fun cc z1 z2 => ⟨(out cc (fun j hj => sl_far hβ (Or.inr z1) hj)).1.trans (fr cc z1).1, (x_up_ne _ _ (by omega)).trans ((out cc (fun j hj => sl_far hβ (Or.inr z1) hj)).2.trans (fr cc z1).2)⟩)
      obtain ⟨I2, L2, hk9, M2, t6, l25, fr9⟩ := keeps_ok (X := X) (SM_tw (t := 0) M1)
      have m1 := mx_removePlot hR M1.2.1 Z hk9 M2.2.1 hpp h1 
      refine OI_c (a' := (y_sf (va_up (I 226) 9 (Int32.ofNat (Np - 1))) (44 + 6 * p) 6 (6 * (Np - 1 - p)))) (b' := (L 229)) k1 ⟨β, δ, γ, _, SB_u S1 out ?_⟩ m1 ?_ (SM_a M2) (fr_t fr_tw (fr_t fr9 fr_a)) (In_p (by omega) hI ?_)
      · exact ⟨(by rw [x_up_ne _ _ (show β ≠ β + 5 by omega), x_up_ne _ _ (show β ≠ β + 6 by omega)]; exact (h_ph H1).trans (show _ = _ from (rp_j (by omega) hNp hpp (by omega))).symm), RT_c (fun k z1 z2 => by rw [x_up_ne _ _ (show β + k ≠ β + 5 by omega), x_up_ne _ _ (show β + k ≠ β + 6 by omega)]) (fun j hj => rp_j (by omega) hNp hpp (by omega)) (h_T H1), RC_rp hNp hpp (h_C H1), RB_c (fun k z1 z2 => by rw [x_up_ne _ _ (show β + k ≠ β + 5 by omega), x_up_ne _ _ (show β + k ≠ β + 6 by omega)]) (by rw [rp_j (by omega) hNp hpp (by omega)]) (fun j hj => rp_j (by omega) hNp hpp (by omega)) (h_B H1), RK_c (fun k z1 z2 => by rw [x_up_ne _ _ (show β + k ≠ β + 5 by omega), x_up_ne _ _ (show β + k ≠ β + 6 by omega)]) rfl rfl (fun z => by rw [rp_j (by omega) hNp hpp (by omega)] at z; exact z) (fun j hj => rp_j (by omega) hNp hpp (by omega)) (h_K H1), RL_c (fun k z1 z2 => by rw [x_up_ne _ _ (show β + k ≠ β + 5 by omega), x_up_ne _ _ (show β + k ≠ β + 6 by omega)]) (fun j hj => rp_j (by omega) hNp hpp (by omega)) (h60_of (h_IL H)) (h_L H1)⟩
      · exact t6
      · have z8 : ¬ I 226 0 = 8 := by rw [h1]; decide
        exact ⟨IT_c (by rw [rp_j (by omega) hNp hpp (by omega)]; exact (h_IT H).1) (fun j hj => rp_j (by omega) hNp hpp (by omega)) (h_IT H), IC_rp hNp hp hpp (h_IC H), IB_c (by omega) (fun z => by rw [rp_j (by omega) hNp hpp (by omega)] at z; exact z) (fun j hj => rp_j (by omega) hNp hpp (by omega)) (h_IB H), IV_c (fun j hj => rp_j (by omega) hNp hpp (by omega)) (h_IV H), IK_c (fun j hj => rp_j (by omega) hNp hpp (by omega)) z8 (h_IK H), IL_c (fun j hj => rp_j (by omega) hNp hpp (by omega)) (h_IL H), (fun j hj => (rp_j (by omega) hNp hpp (by omega)).trans (hI.1.2.2.2.2.2.2.1 j hj)), hI.1.2.2.2.2.2.2.2⟩
    · exact OI_x T0 (by decide) (w_removePlot_x0 (kf_removePlot_1 H Z hpp h1)) (mf_removePlot_1 hR Z hpp h1)
  · exact OI_x T0 (by decide) (w_removePlot_x2 (kf_removePlot_0 H Z h0)) (mf_removePlot_0 hR Z h0)
theorem k_fits {N β : Nat} {a : Nat → Int32} {b : Nat → Int64} (H : y_CS N I L R β a b) {Ns : Nat} (hNs : Ns ≤ 6) (hn : a 8 = Int32.ofNat Ns) {i : Nat} (hi : i < 6) {v : Int32} : x_Cv X mX8_fitsPlot [.ref 0, .int (Int32.ofNat i), .int v] (I, L, R) 233 (.inl (some (.int (x_b (0 ≤ v ∧ v ≤ (if i < Ns then 500 else 0))))), (I, L, R), 233) := by
  have hR := h_R H
  have hβ := h_β H
  have hS := h_S H
  have e : (0 ≤ Int32.ofNat i ∧ Int32.ofNat i ≤ a 8 - 1) ↔ i < Ns := ⟨fun z => (by obtain ⟨s, hs, hz⟩ := in_of hn (by omega) z; rw [n_eq (by omega) (by omega)] at hz; omega), fun z => in_ok hn (by omega) z⟩
  show x_Ev X mX8_fitsPlot 0 [some (.ref 0), some (.int (Int32.ofNat i)), some (.int v)] [] ((I, L, R), 233, 0, 0) _
  refine f_iload_n (M := mX8_fitsPlot) 1 dX8_fitsPlot_0 rfl rfl ?_
  refine f_iconst (M := mX8_fitsPlot) 2 dX8_fitsPlot_1 ki_0 rfl ?_
  refine f_aload_n (M := mX8_fitsPlot) 3 dX8_fitsPlot_2 rfl rfl ?_
  refine f_iload_n (M := mX8_fitsPlot) 4 dX8_fitsPlot_3 rfl rfl ?_
  refine e_cV (M := mX8_fitsPlot) [_, _, _] 0 0 dX8_fitsPlot_4 pa_8161 pb_8161 cc_8161 rfl rfl rfl rfl rfl (x_kk rfl) (x_kk rfl) rfl (k_isSpecies H) rfl ?_
  refine e_if_eq (M := mX8_fitsPlot) (t := 16) dX8_fitsPlot_7 rfl (fun h1 => ?_) (fun h1 => ?_)
  · refine f_iconst (M := mX8_fitsPlot) 17 dX8_fitsPlot_16 ki_0 rfl ?_
    refine e_cS (M := mX8_fitsPlot) [_] 0 0 dX8_fitsPlot_17 pa_8049 cc_8049 rfl rfl rfl rfl rfl (x_kk rfl) (x_kk rfl) rfl (c_X8_isIn) rfl ?_
    refine e_rb (M := mX8_fitsPlot) dX8_fitsPlot_20 rfl (x_kk rfl) (x_kk rfl) (by exact x_bN) ?_
    exact r_bb (by rw [if_neg (fun z => x_bF h1 (e.mpr z))])
  · refine f_sipush (M := mX8_fitsPlot) 13 dX8_fitsPlot_10 ks_500 rfl ?_
    refine f_goto (M := mX8_fitsPlot) 17 dX8_fitsPlot_13 rfl ?_
    refine e_cS (M := mX8_fitsPlot) [_] 0 0 dX8_fitsPlot_17 pa_8049 cc_8049 rfl rfl rfl rfl rfl (x_kk rfl) (x_kk rfl) rfl (c_X8_isIn) rfl ?_
    refine e_rb (M := mX8_fitsPlot) dX8_fitsPlot_20 rfl (x_kk rfl) (x_kk rfl) (by exact x_bN) ?_
    exact r_bb (by rw [if_pos (e.mp (x_bT h1))])
theorem pl_ok {a : Nat → Int32} (hI : y_IC a) {n : Nat} (h9 : a 9 = Int32.ofNat n) (hn : n ≤ 30) : (a 9 < (if a 1 < 30 then a 1 else 30)) ↔ (¬ a 9 = 30 ∧ ¬ a 9 = a 1) := by
  obtain ⟨⟨m, hm, h9', hle⟩, _⟩ := hI
  have : m = n := by rw [h9, n_eq (by omega) (by omega)] at h9'; omega
  have o1 : (30 : Int32).toInt = 30 := by decide
  have e9 : (a 9).toInt = (n : Int) := by rw [h9, t_n (by omega)]
  rw [t_eq, t_eq, o1, e9]
  by_cases c : a 1 < 30
  · rw [if_pos c, t_lt, e9]
    rw [t_lt, o1] at c
    omega
  · rw [if_neg c, t_lt, e9, o1]
    rw [t_lt, o1] at c
    omega
theorem kf_addPlot_0 {N β : Nat} {a : Nat → Int32} {b : Nat → Int64} (H : y_CS N I L R β a b) {Ns Np Nl Nm : Nat} (Z : y_Z a Ns Np Nl Nm) {v0 : Int32} {v1 : Int32} {v2 : Int32} {v3 : Int32} {v4 : Int32} {v5 : Int32} (h0 : ¬ (0 ≤ v0 ∧ v0 ≤ (if 0 < Ns then 500 else 0))) : x_Cv X mX8_addPlot [.ref 0, .int v0, .int v1, .int v2, .int v3, .int v4, .int v5] (I, L, R) 233 (.inr 1, (I, L, R), 233) := by
  obtain ⟨hNs, hn, hNp, hp, hNl, hl, hNm, hmm⟩ := Z
  have hR := h_R H
  have hβ := h_β H
  have hS := h_S H
  show x_Ev X mX8_addPlot 0 [some (.ref 0), some (.int v0), some (.int v1), some (.int v2), some (.int v3), some (.int v4), some (.int v5), none] [] ((I, L, R), 233, 0, 0) _
  refine f_aload_n (M := mX8_addPlot) 1 dX8_addPlot_0 rfl rfl ?_
  refine f_iconst (M := mX8_addPlot) 2 dX8_addPlot_1 ki_0 rfl ?_
  refine f_iload_n (M := mX8_addPlot) 3 dX8_addPlot_2 rfl rfl ?_
  refine e_cV (M := mX8_addPlot) [_] 0 0 dX8_addPlot_3 pa_8079 pb_8079 cc_8079 rfl rfl rfl rfl rfl (x_kk rfl) (x_kk rfl) rfl (k_fits (i := 0) H hNs hn (by decide)) rfl ?_
  refine e_if_eqT (M := mX8_addPlot) 61 dX8_addPlot_6 rfl (x_b0 h0) ?_
  refine f_iconst (M := mX8_addPlot) 62 dX8_addPlot_61 ki_0 rfl ?_
  exact e_cSX (M := mX8_addPlot) 1 6 dX8_addPlot_62 pa_8053 cc_8053 rfl rfl rfl rfl rfl (x_kk rfl) (x_kk rfl) rfl (c_X8_requireArgument_x rfl) rfl
theorem kf_addPlot_1 {N β : Nat} {a : Nat → Int32} {b : Nat → Int64} (H : y_CS N I L R β a b) {Ns Np Nl Nm : Nat} (Z : y_Z a Ns Np Nl Nm) {v0 : Int32} {v1 : Int32} {v2 : Int32} {v3 : Int32} {v4 : Int32} {v5 : Int32} (h0 : 0 ≤ v0 ∧ v0 ≤ (if 0 < Ns then 500 else 0)) (h1 : ¬ (0 ≤ v1 ∧ v1 ≤ (if 1 < Ns then 500 else 0))) : x_Cv X mX8_addPlot [.ref 0, .int v0, .int v1, .int v2, .int v3, .int v4, .int v5] (I, L, R) 233 (.inr 1, (I, L, R), 233) := by
  obtain ⟨hNs, hn, hNp, hp, hNl, hl, hNm, hmm⟩ := Z
  have hR := h_R H
  have hβ := h_β H
  have hS := h_S H
  show x_Ev X mX8_addPlot 0 [some (.ref 0), some (.int v0), some (.int v1), some (.int v2), some (.int v3), some (.int v4), some (.int v5), none] [] ((I, L, R), 233, 0, 0) _
  refine f_aload_n (M := mX8_addPlot) 1 dX8_addPlot_0 rfl rfl ?_
  refine f_iconst (M := mX8_addPlot) 2 dX8_addPlot_1 ki_0 rfl ?_
  refine f_iload_n (M := mX8_addPlot) 3 dX8_addPlot_2 rfl rfl ?_
  refine e_cV (M := mX8_addPlot) [_] 0 0 dX8_addPlot_3 pa_8079 pb_8079 cc_8079 rfl rfl rfl rfl rfl (x_kk rfl) (x_kk rfl) rfl (k_fits (i := 0) H hNs hn (by decide)) rfl ?_
  refine e_if_eqF (M := mX8_addPlot) 61 dX8_addPlot_6 rfl (x_bn h0) ?_
  refine f_aload_n (M := mX8_addPlot) 10 dX8_addPlot_9 rfl rfl ?_
  refine f_iconst (M := mX8_addPlot) 11 dX8_addPlot_10 ki_1 rfl ?_
  refine f_iload_n (M := mX8_addPlot) 12 dX8_addPlot_11 rfl rfl ?_
  refine e_cV (M := mX8_addPlot) [_] 0 0 dX8_addPlot_12 pa_8079 pb_8079 cc_8079 rfl rfl rfl rfl rfl (x_kk rfl) (x_kk rfl) rfl (k_fits (i := 1) H hNs hn (by decide)) rfl ?_
  refine e_if_eqT (M := mX8_addPlot) 61 dX8_addPlot_15 rfl (x_b0 h1) ?_
  refine f_iconst (M := mX8_addPlot) 62 dX8_addPlot_61 ki_0 rfl ?_
  exact e_cSX (M := mX8_addPlot) 1 6 dX8_addPlot_62 pa_8053 cc_8053 rfl rfl rfl rfl rfl (x_kk rfl) (x_kk rfl) rfl (c_X8_requireArgument_x rfl) rfl
theorem kf_addPlot_2 {N β : Nat} {a : Nat → Int32} {b : Nat → Int64} (H : y_CS N I L R β a b) {Ns Np Nl Nm : Nat} (Z : y_Z a Ns Np Nl Nm) {v0 : Int32} {v1 : Int32} {v2 : Int32} {v3 : Int32} {v4 : Int32} {v5 : Int32} (h0 : 0 ≤ v0 ∧ v0 ≤ (if 0 < Ns then 500 else 0)) (h1 : 0 ≤ v1 ∧ v1 ≤ (if 1 < Ns then 500 else 0)) (h2 : ¬ (0 ≤ v2 ∧ v2 ≤ (if 2 < Ns then 500 else 0))) : x_Cv X mX8_addPlot [.ref 0, .int v0, .int v1, .int v2, .int v3, .int v4, .int v5] (I, L, R) 233 (.inr 1, (I, L, R), 233) := by
  obtain ⟨hNs, hn, hNp, hp, hNl, hl, hNm, hmm⟩ := Z
  have hR := h_R H
  have hβ := h_β H
  have hS := h_S H
  show x_Ev X mX8_addPlot 0 [some (.ref 0), some (.int v0), some (.int v1), some (.int v2), some (.int v3), some (.int v4), some (.int v5), none] [] ((I, L, R), 233, 0, 0) _
  refine f_aload_n (M := mX8_addPlot) 1 dX8_addPlot_0 rfl rfl ?_
  refine f_iconst (M := mX8_addPlot) 2 dX8_addPlot_1 ki_0 rfl ?_
  refine f_iload_n (M := mX8_addPlot) 3 dX8_addPlot_2 rfl rfl ?_
  refine e_cV (M := mX8_addPlot) [_] 0 0 dX8_addPlot_3 pa_8079 pb_8079 cc_8079 rfl rfl rfl rfl rfl (x_kk rfl) (x_kk rfl) rfl (k_fits (i := 0) H hNs hn (by decide)) rfl ?_
  refine e_if_eqF (M := mX8_addPlot) 61 dX8_addPlot_6 rfl (x_bn h0) ?_
  refine f_aload_n (M := mX8_addPlot) 10 dX8_addPlot_9 rfl rfl ?_
  refine f_iconst (M := mX8_addPlot) 11 dX8_addPlot_10 ki_1 rfl ?_
  refine f_iload_n (M := mX8_addPlot) 12 dX8_addPlot_11 rfl rfl ?_
  refine e_cV (M := mX8_addPlot) [_] 0 0 dX8_addPlot_12 pa_8079 pb_8079 cc_8079 rfl rfl rfl rfl rfl (x_kk rfl) (x_kk rfl) rfl (k_fits (i := 1) H hNs hn (by decide)) rfl ?_
  refine e_if_eqF (M := mX8_addPlot) 61 dX8_addPlot_15 rfl (x_bn h1) ?_
  refine f_aload_n (M := mX8_addPlot) 19 dX8_addPlot_18 rfl rfl ?_
  refine f_iconst (M := mX8_addPlot) 20 dX8_addPlot_19 ki_2 rfl ?_
  refine f_iload_n (M := mX8_addPlot) 21 dX8_addPlot_20 rfl rfl ?_
  refine e_cV (M := mX8_addPlot) [_] 0 0 dX8_addPlot_21 pa_8079 pb_8079 cc_8079 rfl rfl rfl rfl rfl (x_kk rfl) (x_kk rfl) rfl (k_fits (i := 2) H hNs hn (by decide)) rfl ?_
  refine e_if_eqT (M := mX8_addPlot) 61 dX8_addPlot_24 rfl (x_b0 h2) ?_
  refine f_iconst (M := mX8_addPlot) 62 dX8_addPlot_61 ki_0 rfl ?_
  exact e_cSX (M := mX8_addPlot) 1 6 dX8_addPlot_62 pa_8053 cc_8053 rfl rfl rfl rfl rfl (x_kk rfl) (x_kk rfl) rfl (c_X8_requireArgument_x rfl) rfl
theorem kf_addPlot_3 {N β : Nat} {a : Nat → Int32} {b : Nat → Int64} (H : y_CS N I L R β a b) {Ns Np Nl Nm : Nat} (Z : y_Z a Ns Np Nl Nm) {v0 : Int32} {v1 : Int32} {v2 : Int32} {v3 : Int32} {v4 : Int32} {v5 : Int32} (h0 : 0 ≤ v0 ∧ v0 ≤ (if 0 < Ns then 500 else 0)) (h1 : 0 ≤ v1 ∧ v1 ≤ (if 1 < Ns then 500 else 0)) (h2 : 0 ≤ v2 ∧ v2 ≤ (if 2 < Ns then 500 else 0)) (h3 : ¬ (0 ≤ v3 ∧ v3 ≤ (if 3 < Ns then 500 else 0))) : x_Cv X mX8_addPlot [.ref 0, .int v0, .int v1, .int v2, .int v3, .int v4, .int v5] (I, L, R) 233 (.inr 1, (I, L, R), 233) := by
  obtain ⟨hNs, hn, hNp, hp, hNl, hl, hNm, hmm⟩ := Z
  have hR := h_R H
  have hβ := h_β H
  have hS := h_S H
  show x_Ev X mX8_addPlot 0 [some (.ref 0), some (.int v0), some (.int v1), some (.int v2), some (.int v3), some (.int v4), some (.int v5), none] [] ((I, L, R), 233, 0, 0) _
  refine f_aload_n (M := mX8_addPlot) 1 dX8_addPlot_0 rfl rfl ?_
  refine f_iconst (M := mX8_addPlot) 2 dX8_addPlot_1 ki_0 rfl ?_
  refine f_iload_n (M := mX8_addPlot) 3 dX8_addPlot_2 rfl rfl ?_
  refine e_cV (M := mX8_addPlot) [_] 0 0 dX8_addPlot_3 pa_8079 pb_8079 cc_8079 rfl rfl rfl rfl rfl (x_kk rfl) (x_kk rfl) rfl (k_fits (i := 0) H hNs hn (by decide)) rfl ?_
  refine e_if_eqF (M := mX8_addPlot) 61 dX8_addPlot_6 rfl (x_bn h0) ?_
  refine f_aload_n (M := mX8_addPlot) 10 dX8_addPlot_9 rfl rfl ?_
  refine f_iconst (M := mX8_addPlot) 11 dX8_addPlot_10 ki_1 rfl ?_
  refine f_iload_n (M := mX8_addPlot) 12 dX8_addPlot_11 rfl rfl ?_
  refine e_cV (M := mX8_addPlot) [_] 0 0 dX8_addPlot_12 pa_8079 pb_8079 cc_8079 rfl rfl rfl rfl rfl (x_kk rfl) (x_kk rfl) rfl (k_fits (i := 1) H hNs hn (by decide)) rfl ?_
  refine e_if_eqF (M := mX8_addPlot) 61 dX8_addPlot_15 rfl (x_bn h1) ?_
  refine f_aload_n (M := mX8_addPlot) 19 dX8_addPlot_18 rfl rfl ?_
  refine f_iconst (M := mX8_addPlot) 20 dX8_addPlot_19 ki_2 rfl ?_
  refine f_iload_n (M := mX8_addPlot) 21 dX8_addPlot_20 rfl rfl ?_
  refine e_cV (M := mX8_addPlot) [_] 0 0 dX8_addPlot_21 pa_8079 pb_8079 cc_8079 rfl rfl rfl rfl rfl (x_kk rfl) (x_kk rfl) rfl (k_fits (i := 2) H hNs hn (by decide)) rfl ?_
  refine e_if_eqF (M := mX8_addPlot) 61 dX8_addPlot_24 rfl (x_bn h2) ?_
  refine f_aload_n (M := mX8_addPlot) 28 dX8_addPlot_27 rfl rfl ?_
  refine f_iconst (M := mX8_addPlot) 29 dX8_addPlot_28 ki_3 rfl ?_
  refine f_iload (M := mX8_addPlot) 31 dX8_addPlot_29 rfl rfl ?_
  refine e_cV (M := mX8_addPlot) [_] 0 0 dX8_addPlot_31 pa_8079 pb_8079 cc_8079 rfl rfl rfl rfl rfl (x_kk rfl) (x_kk rfl) rfl (k_fits (i := 3) H hNs hn (by decide)) rfl ?_
  refine e_if_eqT (M := mX8_addPlot) 61 dX8_addPlot_34 rfl (x_b0 h3) ?_
  refine f_iconst (M := mX8_addPlot) 62 dX8_addPlot_61 ki_0 rfl ?_
  exact e_cSX (M := mX8_addPlot) 1 6 dX8_addPlot_62 pa_8053 cc_8053 rfl rfl rfl rfl rfl (x_kk rfl) (x_kk rfl) rfl (c_X8_requireArgument_x rfl) rfl
theorem kf_addPlot_4 {N β : Nat} {a : Nat → Int32} {b : Nat → Int64} (H : y_CS N I L R β a b) {Ns Np Nl Nm : Nat} (Z : y_Z a Ns Np Nl Nm) {v0 : Int32} {v1 : Int32} {v2 : Int32} {v3 : Int32} {v4 : Int32} {v5 : Int32} (h0 : 0 ≤ v0 ∧ v0 ≤ (if 0 < Ns then 500 else 0)) (h1 : 0 ≤ v1 ∧ v1 ≤ (if 1 < Ns then 500 else 0)) (h2 : 0 ≤ v2 ∧ v2 ≤ (if 2 < Ns then 500 else 0)) (h3 : 0 ≤ v3 ∧ v3 ≤ (if 3 < Ns then 500 else 0)) (h4 : ¬ (0 ≤ v4 ∧ v4 ≤ (if 4 < Ns then 500 else 0))) : x_Cv X mX8_addPlot [.ref 0, .int v0, .int v1, .int v2, .int v3, .int v4, .int v5] (I, L, R) 233 (.inr 1, (I, L, R), 233) := by
  obtain ⟨hNs, hn, hNp, hp, hNl, hl, hNm, hmm⟩ := Z
  have hR := h_R H
  have hβ := h_β H
  have hS := h_S H
  show x_Ev X mX8_addPlot 0 [some (.ref 0), some (.int v0), some (.int v1), some (.int v2), some (.int v3), some (.int v4), some (.int v5), none] [] ((I, L, R), 233, 0, 0) _
  refine f_aload_n (M := mX8_addPlot) 1 dX8_addPlot_0 rfl rfl ?_
  refine f_iconst (M := mX8_addPlot) 2 dX8_addPlot_1 ki_0 rfl ?_
  refine f_iload_n (M := mX8_addPlot) 3 dX8_addPlot_2 rfl rfl ?_
  refine e_cV (M := mX8_addPlot) [_] 0 0 dX8_addPlot_3 pa_8079 pb_8079 cc_8079 rfl rfl rfl rfl rfl (x_kk rfl) (x_kk rfl) rfl (k_fits (i := 0) H hNs hn (by decide)) rfl ?_
  refine e_if_eqF (M := mX8_addPlot) 61 dX8_addPlot_6 rfl (x_bn h0) ?_
  refine f_aload_n (M := mX8_addPlot) 10 dX8_addPlot_9 rfl rfl ?_
  refine f_iconst (M := mX8_addPlot) 11 dX8_addPlot_10 ki_1 rfl ?_
  refine f_iload_n (M := mX8_addPlot) 12 dX8_addPlot_11 rfl rfl ?_
  refine e_cV (M := mX8_addPlot) [_] 0 0 dX8_addPlot_12 pa_8079 pb_8079 cc_8079 rfl rfl rfl rfl rfl (x_kk rfl) (x_kk rfl) rfl (k_fits (i := 1) H hNs hn (by decide)) rfl ?_
  refine e_if_eqF (M := mX8_addPlot) 61 dX8_addPlot_15 rfl (x_bn h1) ?_
  refine f_aload_n (M := mX8_addPlot) 19 dX8_addPlot_18 rfl rfl ?_
  refine f_iconst (M := mX8_addPlot) 20 dX8_addPlot_19 ki_2 rfl ?_
  refine f_iload_n (M := mX8_addPlot) 21 dX8_addPlot_20 rfl rfl ?_
  refine e_cV (M := mX8_addPlot) [_] 0 0 dX8_addPlot_21 pa_8079 pb_8079 cc_8079 rfl rfl rfl rfl rfl (x_kk rfl) (x_kk rfl) rfl (k_fits (i := 2) H hNs hn (by decide)) rfl ?_
  refine e_if_eqF (M := mX8_addPlot) 61 dX8_addPlot_24 rfl (x_bn h2) ?_
  refine f_aload_n (M := mX8_addPlot) 28 dX8_addPlot_27 rfl rfl ?_
  refine f_iconst (M := mX8_addPlot) 29 dX8_addPlot_28 ki_3 rfl ?_
  refine f_iload (M := mX8_addPlot) 31 dX8_addPlot_29 rfl rfl ?_
  refine e_cV (M := mX8_addPlot) [_] 0 0 dX8_addPlot_31 pa_8079 pb_8079 cc_8079 rfl rfl rfl rfl rfl (x_kk rfl) (x_kk rfl) rfl (k_fits (i := 3) H hNs hn (by decide)) rfl ?_
  refine e_if_eqF (M := mX8_addPlot) 61 dX8_addPlot_34 rfl (x_bn h3) ?_
  refine f_aload_n (M := mX8_addPlot) 38 dX8_addPlot_37 rfl rfl ?_
  refine f_iconst (M := mX8_addPlot) 39 dX8_addPlot_38 ki_4 rfl ?_
  refine f_iload (M := mX8_addPlot) 41 dX8_addPlot_39 rfl rfl ?_
  refine e_cV (M := mX8_addPlot) [_] 0 0 dX8_addPlot_41 pa_8079 pb_8079 cc_8079 rfl rfl rfl rfl rfl (x_kk rfl) (x_kk rfl) rfl (k_fits (i := 4) H hNs hn (by decide)) rfl ?_
  refine e_if_eqT (M := mX8_addPlot) 61 dX8_addPlot_44 rfl (x_b0 h4) ?_
  refine f_iconst (M := mX8_addPlot) 62 dX8_addPlot_61 ki_0 rfl ?_
  exact e_cSX (M := mX8_addPlot) 1 6 dX8_addPlot_62 pa_8053 cc_8053 rfl rfl rfl rfl rfl (x_kk rfl) (x_kk rfl) rfl (c_X8_requireArgument_x rfl) rfl
theorem kf_addPlot_5 {N β : Nat} {a : Nat → Int32} {b : Nat → Int64} (H : y_CS N I L R β a b) {Ns Np Nl Nm : Nat} (Z : y_Z a Ns Np Nl Nm) {v0 : Int32} {v1 : Int32} {v2 : Int32} {v3 : Int32} {v4 : Int32} {v5 : Int32} (h0 : 0 ≤ v0 ∧ v0 ≤ (if 0 < Ns then 500 else 0)) (h1 : 0 ≤ v1 ∧ v1 ≤ (if 1 < Ns then 500 else 0)) (h2 : 0 ≤ v2 ∧ v2 ≤ (if 2 < Ns then 500 else 0)) (h3 : 0 ≤ v3 ∧ v3 ≤ (if 3 < Ns then 500 else 0)) (h4 : 0 ≤ v4 ∧ v4 ≤ (if 4 < Ns then 500 else 0)) (h5 : ¬ (0 ≤ v5 ∧ v5 ≤ (if 5 < Ns then 500 else 0))) : x_Cv X mX8_addPlot [.ref 0, .int v0, .int v1, .int v2, .int v3, .int v4, .int v5] (I, L, R) 233 (.inr 1, (I, L, R), 233) := by
  obtain ⟨hNs, hn, hNp, hp, hNl, hl, hNm, hmm⟩ := Z
  have hR := h_R H
  have hβ := h_β H
  have hS := h_S H
  show x_Ev X mX8_addPlot 0 [some (.ref 0), some (.int v0), some (.int v1), some (.int v2), some (.int v3), some (.int v4), some (.int v5), none] [] ((I, L, R), 233, 0, 0) _
  refine f_aload_n (M := mX8_addPlot) 1 dX8_addPlot_0 rfl rfl ?_
  refine f_iconst (M := mX8_addPlot) 2 dX8_addPlot_1 ki_0 rfl ?_
  refine f_iload_n (M := mX8_addPlot) 3 dX8_addPlot_2 rfl rfl ?_
  refine e_cV (M := mX8_addPlot) [_] 0 0 dX8_addPlot_3 pa_8079 pb_8079 cc_8079 rfl rfl rfl rfl rfl (x_kk rfl) (x_kk rfl) rfl (k_fits (i := 0) H hNs hn (by decide)) rfl ?_
  refine e_if_eqF (M := mX8_addPlot) 61 dX8_addPlot_6 rfl (x_bn h0) ?_
  refine f_aload_n (M := mX8_addPlot) 10 dX8_addPlot_9 rfl rfl ?_
  refine f_iconst (M := mX8_addPlot) 11 dX8_addPlot_10 ki_1 rfl ?_
  refine f_iload_n (M := mX8_addPlot) 12 dX8_addPlot_11 rfl rfl ?_
  refine e_cV (M := mX8_addPlot) [_] 0 0 dX8_addPlot_12 pa_8079 pb_8079 cc_8079 rfl rfl rfl rfl rfl (x_kk rfl) (x_kk rfl) rfl (k_fits (i := 1) H hNs hn (by decide)) rfl ?_
  refine e_if_eqF (M := mX8_addPlot) 61 dX8_addPlot_15 rfl (x_bn h1) ?_
  refine f_aload_n (M := mX8_addPlot) 19 dX8_addPlot_18 rfl rfl ?_
  refine f_iconst (M := mX8_addPlot) 20 dX8_addPlot_19 ki_2 rfl ?_
  refine f_iload_n (M := mX8_addPlot) 21 dX8_addPlot_20 rfl rfl ?_
  refine e_cV (M := mX8_addPlot) [_] 0 0 dX8_addPlot_21 pa_8079 pb_8079 cc_8079 rfl rfl rfl rfl rfl (x_kk rfl) (x_kk rfl) rfl (k_fits (i := 2) H hNs hn (by decide)) rfl ?_
  refine e_if_eqF (M := mX8_addPlot) 61 dX8_addPlot_24 rfl (x_bn h2) ?_
  refine f_aload_n (M := mX8_addPlot) 28 dX8_addPlot_27 rfl rfl ?_
  refine f_iconst (M := mX8_addPlot) 29 dX8_addPlot_28 ki_3 rfl ?_
  refine f_iload (M := mX8_addPlot) 31 dX8_addPlot_29 rfl rfl ?_
  refine e_cV (M := mX8_addPlot) [_] 0 0 dX8_addPlot_31 pa_8079 pb_8079 cc_8079 rfl rfl rfl rfl rfl (x_kk rfl) (x_kk rfl) rfl (k_fits (i := 3) H hNs hn (by decide)) rfl ?_
  refine e_if_eqF (M := mX8_addPlot) 61 dX8_addPlot_34 rfl (x_bn h3) ?_
  refine f_aload_n (M := mX8_addPlot) 38 dX8_addPlot_37 rfl rfl ?_
  refine f_iconst (M := mX8_addPlot) 39 dX8_addPlot_38 ki_4 rfl ?_
  refine f_iload (M := mX8_addPlot) 41 dX8_addPlot_39 rfl rfl ?_
  refine e_cV (M := mX8_addPlot) [_] 0 0 dX8_addPlot_41 pa_8079 pb_8079 cc_8079 rfl rfl rfl rfl rfl (x_kk rfl) (x_kk rfl) rfl (k_fits (i := 4) H hNs hn (by decide)) rfl ?_
  refine e_if_eqF (M := mX8_addPlot) 61 dX8_addPlot_44 rfl (x_bn h4) ?_
  refine f_aload_n (M := mX8_addPlot) 48 dX8_addPlot_47 rfl rfl ?_
  refine f_iconst (M := mX8_addPlot) 49 dX8_addPlot_48 ki_5 rfl ?_
  refine f_iload (M := mX8_addPlot) 51 dX8_addPlot_49 rfl rfl ?_
  refine e_cV (M := mX8_addPlot) [_] 0 0 dX8_addPlot_51 pa_8079 pb_8079 cc_8079 rfl rfl rfl rfl rfl (x_kk rfl) (x_kk rfl) rfl (k_fits (i := 5) H hNs hn (by decide)) rfl ?_
  refine e_if_eqT (M := mX8_addPlot) 61 dX8_addPlot_54 rfl (x_b0 h5) ?_
  refine f_iconst (M := mX8_addPlot) 62 dX8_addPlot_61 ki_0 rfl ?_
  exact e_cSX (M := mX8_addPlot) 1 6 dX8_addPlot_62 pa_8053 cc_8053 rfl rfl rfl rfl rfl (x_kk rfl) (x_kk rfl) rfl (c_X8_requireArgument_x rfl) rfl
theorem kf_addPlot_6 {N β : Nat} {a : Nat → Int32} {b : Nat → Int64} (H : y_CS N I L R β a b) {Ns Np Nl Nm : Nat} (Z : y_Z a Ns Np Nl Nm) {v0 : Int32} {v1 : Int32} {v2 : Int32} {v3 : Int32} {v4 : Int32} {v5 : Int32} (h0 : 0 ≤ v0 ∧ v0 ≤ (if 0 < Ns then 500 else 0)) (h1 : 0 ≤ v1 ∧ v1 ≤ (if 1 < Ns then 500 else 0)) (h2 : 0 ≤ v2 ∧ v2 ≤ (if 2 < Ns then 500 else 0)) (h3 : 0 ≤ v3 ∧ v3 ≤ (if 3 < Ns then 500 else 0)) (h4 : 0 ≤ v4 ∧ v4 ≤ (if 4 < Ns then 500 else 0)) (h5 : 0 ≤ v5 ∧ v5 ≤ (if 5 < Ns then 500 else 0)) (h6 : ¬ (a 0 = 0)) : x_Cv X mX8_addPlot [.ref 0, .int v0, .int v1, .int v2, .int v3, .int v4, .int v5] (I, L, R) 233 (.inr 0, (I, L, R), 233) := by
  obtain ⟨hNs, hn, hNp, hp, hNl, hl, hNm, hmm⟩ := Z
  have hR := h_R H
  have hβ := h_β H
  have hS := h_S H
  show x_Ev X mX8_addPlot 0 [some (.ref 0), some (.int v0), some (.int v1), some (.int v2), some (.int v3), some (.int v4), some (.int v5), none] [] ((I, L, R), 233, 0, 0) _
  refine f_aload_n (M := mX8_addPlot) 1 dX8_addPlot_0 rfl rfl ?_
  refine f_iconst (M := mX8_addPlot) 2 dX8_addPlot_1 ki_0 rfl ?_
  refine f_iload_n (M := mX8_addPlot) 3 dX8_addPlot_2 rfl rfl ?_
  refine e_cV (M := mX8_addPlot) [_] 0 0 dX8_addPlot_3 pa_8079 pb_8079 cc_8079 rfl rfl rfl rfl rfl (x_kk rfl) (x_kk rfl) rfl (k_fits (i := 0) H hNs hn (by decide)) rfl ?_
  refine e_if_eqF (M := mX8_addPlot) 61 dX8_addPlot_6 rfl (x_bn h0) ?_
  refine f_aload_n (M := mX8_addPlot) 10 dX8_addPlot_9 rfl rfl ?_
  refine f_iconst (M := mX8_addPlot) 11 dX8_addPlot_10 ki_1 rfl ?_
  refine f_iload_n (M := mX8_addPlot) 12 dX8_addPlot_11 rfl rfl ?_
  refine e_cV (M := mX8_addPlot) [_] 0 0 dX8_addPlot_12 pa_8079 pb_8079 cc_8079 rfl rfl rfl rfl rfl (x_kk rfl) (x_kk rfl) rfl (k_fits (i := 1) H hNs hn (by decide)) rfl ?_
  refine e_if_eqF (M := mX8_addPlot) 61 dX8_addPlot_15 rfl (x_bn h1) ?_
  refine f_aload_n (M := mX8_addPlot) 19 dX8_addPlot_18 rfl rfl ?_
  refine f_iconst (M := mX8_addPlot) 20 dX8_addPlot_19 ki_2 rfl ?_
  refine f_iload_n (M := mX8_addPlot) 21 dX8_addPlot_20 rfl rfl ?_
  refine e_cV (M := mX8_addPlot) [_] 0 0 dX8_addPlot_21 pa_8079 pb_8079 cc_8079 rfl rfl rfl rfl rfl (x_kk rfl) (x_kk rfl) rfl (k_fits (i := 2) H hNs hn (by decide)) rfl ?_
  refine e_if_eqF (M := mX8_addPlot) 61 dX8_addPlot_24 rfl (x_bn h2) ?_
  refine f_aload_n (M := mX8_addPlot) 28 dX8_addPlot_27 rfl rfl ?_
  refine f_iconst (M := mX8_addPlot) 29 dX8_addPlot_28 ki_3 rfl ?_
  refine f_iload (M := mX8_addPlot) 31 dX8_addPlot_29 rfl rfl ?_
  refine e_cV (M := mX8_addPlot) [_] 0 0 dX8_addPlot_31 pa_8079 pb_8079 cc_8079 rfl rfl rfl rfl rfl (x_kk rfl) (x_kk rfl) rfl (k_fits (i := 3) H hNs hn (by decide)) rfl ?_
  refine e_if_eqF (M := mX8_addPlot) 61 dX8_addPlot_34 rfl (x_bn h3) ?_
  refine f_aload_n (M := mX8_addPlot) 38 dX8_addPlot_37 rfl rfl ?_
  refine f_iconst (M := mX8_addPlot) 39 dX8_addPlot_38 ki_4 rfl ?_
  refine f_iload (M := mX8_addPlot) 41 dX8_addPlot_39 rfl rfl ?_
  refine e_cV (M := mX8_addPlot) [_] 0 0 dX8_addPlot_41 pa_8079 pb_8079 cc_8079 rfl rfl rfl rfl rfl (x_kk rfl) (x_kk rfl) rfl (k_fits (i := 4) H hNs hn (by decide)) rfl ?_
  refine e_if_eqF (M := mX8_addPlot) 61 dX8_addPlot_44 rfl (x_bn h4) ?_
  refine f_aload_n (M := mX8_addPlot) 48 dX8_addPlot_47 rfl rfl ?_
  refine f_iconst (M := mX8_addPlot) 49 dX8_addPlot_48 ki_5 rfl ?_
  refine f_iload (M := mX8_addPlot) 51 dX8_addPlot_49 rfl rfl ?_
  refine e_cV (M := mX8_addPlot) [_] 0 0 dX8_addPlot_51 pa_8079 pb_8079 cc_8079 rfl rfl rfl rfl rfl (x_kk rfl) (x_kk rfl) rfl (k_fits (i := 5) H hNs hn (by decide)) rfl ?_
  refine e_if_eqF (M := mX8_addPlot) 61 dX8_addPlot_54 rfl (x_bn h5) ?_
  refine f_iconst (M := mX8_addPlot) 58 dX8_addPlot_57 ki_1 rfl ?_
  refine f_goto (M := mX8_addPlot) 62 dX8_addPlot_58 rfl ?_
  refine e_cS (M := mX8_addPlot) [] 1 6 dX8_addPlot_62 pa_8053 cc_8053 rfl rfl rfl rfl rfl (x_kk rfl) (x_kk rfl) rfl (c_X8_requireArgument (by decide)) rfl ?_
  refine f_bipush (M := mX8_addPlot) 67 dX8_addPlot_65 kb_30 rfl ?_
  refine f_aload_n (M := mX8_addPlot) 68 dX8_addPlot_67 rfl rfl ?_
  refine e_getR (M := mX8_addPlot) dX8_addPlot_68 fl_8026 (x_kk rfl) (x_kk rfl) rfl hS ?_
  refine e_getR (M := mX8_addPlot) dX8_addPlot_71 fl_8083 (x_kk rfl) (sl_lt hβ 0 rfl) (sl_s hβ 0 rfl rfl) (wf_6_1 hR hβ) ?_
  refine e_getR (M := mX8_addPlot) dX8_addPlot_74 fl_8087 (x_kk rfl) (sl_lt hβ 1 rfl) (sl_s hβ 1 rfl rfl) (wf_7_1 hR hβ) ?_
  refine f_iconst (M := mX8_addPlot) 78 dX8_addPlot_77 ki_0 rfl ?_
  refine e_ild (M := mX8_addPlot) (w := 7) (j := 0) dX8_addPlot_78 (sl_lt hβ 2 rfl) (sl_shp hβ 2 rfl) kn_0 (by omega) (by omega) ?_
  refine e_cS (M := mX8_addPlot) [_] 1 6 dX8_addPlot_79 pa_8093 cc_8093 rfl rfl rfl rfl rfl (x_kk rfl) (x_kk rfl) rfl (c_J9_min_7cf53) rfl ?_
  refine f_istore (M := mX8_addPlot) (ls' := [_, _, _, _, _, _, _, _]) 84 dX8_addPlot_82 rfl rfl rfl ?_
  refine f_aload_n (M := mX8_addPlot) 85 dX8_addPlot_84 rfl rfl ?_
  refine e_getR (M := mX8_addPlot) dX8_addPlot_85 fl_8026 (x_kk rfl) (x_kk rfl) rfl hS ?_
  refine e_getI (M := mX8_addPlot) dX8_addPlot_88 fl_8067 (x_kk rfl) (sl_lt hβ 0 rfl) (sl_s hβ 0 rfl rfl) ?_
  refine e_if_neT (M := mX8_addPlot) 113 dX8_addPlot_91 rfl (by rw [h_ph H]; exact h6) ?_
  refine f_iconst (M := mX8_addPlot) 114 dX8_addPlot_113 ki_0 rfl ?_
  exact e_cSX (M := mX8_addPlot) 2 12 dX8_addPlot_114 pa_8037 cc_8037 rfl rfl rfl rfl rfl (x_kk rfl) (x_kk rfl) rfl (c_X8_requireState_x rfl) rfl
theorem kf_addPlot_7 {N β : Nat} {a : Nat → Int32} {b : Nat → Int64} (H : y_CS N I L R β a b) {Ns Np Nl Nm : Nat} (Z : y_Z a Ns Np Nl Nm) {v0 : Int32} {v1 : Int32} {v2 : Int32} {v3 : Int32} {v4 : Int32} {v5 : Int32} (h0 : 0 ≤ v0 ∧ v0 ≤ (if 0 < Ns then 500 else 0)) (h1 : 0 ≤ v1 ∧ v1 ≤ (if 1 < Ns then 500 else 0)) (h2 : 0 ≤ v2 ∧ v2 ≤ (if 2 < Ns then 500 else 0)) (h3 : 0 ≤ v3 ∧ v3 ≤ (if 3 < Ns then 500 else 0)) (h4 : 0 ≤ v4 ∧ v4 ≤ (if 4 < Ns then 500 else 0)) (h5 : 0 ≤ v5 ∧ v5 ≤ (if 5 < Ns then 500 else 0)) (h6 : a 0 = 0) (h7 : ¬ (¬ a 9 = 30 ∧ ¬ a 9 = a 1)) : x_Cv X mX8_addPlot [.ref 0, .int v0, .int v1, .int v2, .int v3, .int v4, .int v5] (I, L, R) 233 (.inr 0, (I, L, R), 233) := by
  obtain ⟨hNs, hn, hNp, hp, hNl, hl, hNm, hmm⟩ := Z
  have hR := h_R H
  have hβ := h_β H
  have hS := h_S H
  show x_Ev X mX8_addPlot 0 [some (.ref 0), some (.int v0), some (.int v1), some (.int v2), some (.int v3), some (.int v4), some (.int v5), none] [] ((I, L, R), 233, 0, 0) _
  refine f_aload_n (M := mX8_addPlot) 1 dX8_addPlot_0 rfl rfl ?_
  refine f_iconst (M := mX8_addPlot) 2 dX8_addPlot_1 ki_0 rfl ?_
  refine f_iload_n (M := mX8_addPlot) 3 dX8_addPlot_2 rfl rfl ?_
  refine e_cV (M := mX8_addPlot) [_] 0 0 dX8_addPlot_3 pa_8079 pb_8079 cc_8079 rfl rfl rfl rfl rfl (x_kk rfl) (x_kk rfl) rfl (k_fits (i := 0) H hNs hn (by decide)) rfl ?_
  refine e_if_eqF (M := mX8_addPlot) 61 dX8_addPlot_6 rfl (x_bn h0) ?_
  refine f_aload_n (M := mX8_addPlot) 10 dX8_addPlot_9 rfl rfl ?_
  refine f_iconst (M := mX8_addPlot) 11 dX8_addPlot_10 ki_1 rfl ?_
  refine f_iload_n (M := mX8_addPlot) 12 dX8_addPlot_11 rfl rfl ?_
  refine e_cV (M := mX8_addPlot) [_] 0 0 dX8_addPlot_12 pa_8079 pb_8079 cc_8079 rfl rfl rfl rfl rfl (x_kk rfl) (x_kk rfl) rfl (k_fits (i := 1) H hNs hn (by decide)) rfl ?_
  refine e_if_eqF (M := mX8_addPlot) 61 dX8_addPlot_15 rfl (x_bn h1) ?_
  refine f_aload_n (M := mX8_addPlot) 19 dX8_addPlot_18 rfl rfl ?_
  refine f_iconst (M := mX8_addPlot) 20 dX8_addPlot_19 ki_2 rfl ?_
  refine f_iload_n (M := mX8_addPlot) 21 dX8_addPlot_20 rfl rfl ?_
  refine e_cV (M := mX8_addPlot) [_] 0 0 dX8_addPlot_21 pa_8079 pb_8079 cc_8079 rfl rfl rfl rfl rfl (x_kk rfl) (x_kk rfl) rfl (k_fits (i := 2) H hNs hn (by decide)) rfl ?_
  refine e_if_eqF (M := mX8_addPlot) 61 dX8_addPlot_24 rfl (x_bn h2) ?_
  refine f_aload_n (M := mX8_addPlot) 28 dX8_addPlot_27 rfl rfl ?_
  refine f_iconst (M := mX8_addPlot) 29 dX8_addPlot_28 ki_3 rfl ?_
  refine f_iload (M := mX8_addPlot) 31 dX8_addPlot_29 rfl rfl ?_
  refine e_cV (M := mX8_addPlot) [_] 0 0 dX8_addPlot_31 pa_8079 pb_8079 cc_8079 rfl rfl rfl rfl rfl (x_kk rfl) (x_kk rfl) rfl (k_fits (i := 3) H hNs hn (by decide)) rfl ?_
  refine e_if_eqF (M := mX8_addPlot) 61 dX8_addPlot_34 rfl (x_bn h3) ?_
  refine f_aload_n (M := mX8_addPlot) 38 dX8_addPlot_37 rfl rfl ?_
  refine f_iconst (M := mX8_addPlot) 39 dX8_addPlot_38 ki_4 rfl ?_
  refine f_iload (M := mX8_addPlot) 41 dX8_addPlot_39 rfl rfl ?_
  refine e_cV (M := mX8_addPlot) [_] 0 0 dX8_addPlot_41 pa_8079 pb_8079 cc_8079 rfl rfl rfl rfl rfl (x_kk rfl) (x_kk rfl) rfl (k_fits (i := 4) H hNs hn (by decide)) rfl ?_
  refine e_if_eqF (M := mX8_addPlot) 61 dX8_addPlot_44 rfl (x_bn h4) ?_
  refine f_aload_n (M := mX8_addPlot) 48 dX8_addPlot_47 rfl rfl ?_
  refine f_iconst (M := mX8_addPlot) 49 dX8_addPlot_48 ki_5 rfl ?_
  refine f_iload (M := mX8_addPlot) 51 dX8_addPlot_49 rfl rfl ?_
  refine e_cV (M := mX8_addPlot) [_] 0 0 dX8_addPlot_51 pa_8079 pb_8079 cc_8079 rfl rfl rfl rfl rfl (x_kk rfl) (x_kk rfl) rfl (k_fits (i := 5) H hNs hn (by decide)) rfl ?_
  refine e_if_eqF (M := mX8_addPlot) 61 dX8_addPlot_54 rfl (x_bn h5) ?_
  refine f_iconst (M := mX8_addPlot) 58 dX8_addPlot_57 ki_1 rfl ?_
  refine f_goto (M := mX8_addPlot) 62 dX8_addPlot_58 rfl ?_
  refine e_cS (M := mX8_addPlot) [] 1 6 dX8_addPlot_62 pa_8053 cc_8053 rfl rfl rfl rfl rfl (x_kk rfl) (x_kk rfl) rfl (c_X8_requireArgument (by decide)) rfl ?_
  refine f_bipush (M := mX8_addPlot) 67 dX8_addPlot_65 kb_30 rfl ?_
  refine f_aload_n (M := mX8_addPlot) 68 dX8_addPlot_67 rfl rfl ?_
  refine e_getR (M := mX8_addPlot) dX8_addPlot_68 fl_8026 (x_kk rfl) (x_kk rfl) rfl hS ?_
  refine e_getR (M := mX8_addPlot) dX8_addPlot_71 fl_8083 (x_kk rfl) (sl_lt hβ 0 rfl) (sl_s hβ 0 rfl rfl) (wf_6_1 hR hβ) ?_
  refine e_getR (M := mX8_addPlot) dX8_addPlot_74 fl_8087 (x_kk rfl) (sl_lt hβ 1 rfl) (sl_s hβ 1 rfl rfl) (wf_7_1 hR hβ) ?_
  refine f_iconst (M := mX8_addPlot) 78 dX8_addPlot_77 ki_0 rfl ?_
  refine e_ild (M := mX8_addPlot) (w := 7) (j := 0) dX8_addPlot_78 (sl_lt hβ 2 rfl) (sl_shp hβ 2 rfl) kn_0 (by omega) (by omega) ?_
  refine e_cS (M := mX8_addPlot) [_] 1 6 dX8_addPlot_79 pa_8093 cc_8093 rfl rfl rfl rfl rfl (x_kk rfl) (x_kk rfl) rfl (c_J9_min_7cf53) rfl ?_
  refine f_istore (M := mX8_addPlot) (ls' := [_, _, _, _, _, _, _, _]) 84 dX8_addPlot_82 rfl rfl rfl ?_
  refine f_aload_n (M := mX8_addPlot) 85 dX8_addPlot_84 rfl rfl ?_
  refine e_getR (M := mX8_addPlot) dX8_addPlot_85 fl_8026 (x_kk rfl) (x_kk rfl) rfl hS ?_
  refine e_getI (M := mX8_addPlot) dX8_addPlot_88 fl_8067 (x_kk rfl) (sl_lt hβ 0 rfl) (sl_s hβ 0 rfl rfl) ?_
  refine e_if_neF (M := mX8_addPlot) 113 dX8_addPlot_91 rfl (fun z => z (by rw [h_ph H]; exact h6)) ?_
  refine f_aload_n (M := mX8_addPlot) 95 dX8_addPlot_94 rfl rfl ?_
  refine e_getR (M := mX8_addPlot) dX8_addPlot_95 fl_8026 (x_kk rfl) (x_kk rfl) rfl hS ?_
  refine e_getR (M := mX8_addPlot) dX8_addPlot_98 fl_8070 (x_kk rfl) (sl_lt hβ 0 rfl) (sl_s hβ 0 rfl rfl) (wf_6_2 hR hβ) ?_
  refine e_getI (M := mX8_addPlot) dX8_addPlot_101 fl_8074 (x_kk rfl) (sl_lt hβ 5 rfl) (sl_s hβ 5 rfl rfl) ?_
  refine f_iload (M := mX8_addPlot) 106 dX8_addPlot_104 rfl rfl ?_
  refine e_icmp_geT (M := mX8_addPlot) 113 dX8_addPlot_106 rfl (i_nlt.mp (by rw [(h_C H).1, (h_T H).2.1 0 (by decide)]; exact fun z => h7 ((pl_ok (h_IC H) hp hNp).mp z))) ?_
  refine f_iconst (M := mX8_addPlot) 114 dX8_addPlot_113 ki_0 rfl ?_
  exact e_cSX (M := mX8_addPlot) 2 12 dX8_addPlot_114 pa_8037 cc_8037 rfl rfl rfl rfl rfl (x_kk rfl) (x_kk rfl) rfl (c_X8_requireState_x rfl) rfl
theorem sg_addPlot_0 (hR : x_wf R) {Ns : Nat} (hNs : Ns ≤ 6) (hn : I 226 8 = Int32.ofNat Ns) {v0 v1 v2 v3 v4 v5 : Int32} {r : x_O × x_Mem × Nat} (kk : x_Ev X mX9_addPlot 23 [some (.ref 225), some (.int v0), some (.int v1), some (.int v2), some (.int v3), some (.int v4), some (.int v5), some (.int (I 226 8)), none, none] [.int (x_b (0 ≤ v0 ∧ v0 ≤ (if 0 < Ns then 500 else 0)))] ((I, L, R), 233, 0, 0) r) : x_Ev X mX9_addPlot 9 [some (.ref 225), some (.int v0), some (.int v1), some (.int v2), some (.int v3), some (.int v4), some (.int v5), some (.int (I 226 8)), none, none] [] ((I, L, R), 233, 0, 0) r := by
  refine f_iload_n (M := mX9_addPlot) 10 dX9_addPlot_9 rfl rfl ?_
  refine f_iload (M := mX9_addPlot) 12 dX9_addPlot_10 rfl rfl ?_
  refine e_if_le (M := mX9_addPlot) (t := 19) dX9_addPlot_12 rfl (fun h1 => ?_) (fun h1 => ?_)
  · refine f_iconst (M := mX9_addPlot) 20 dX9_addPlot_19 ki_0 rfl ?_
    refine e_cS (M := mX9_addPlot) [_] 0 0 dX9_addPlot_20 pa_9133 cc_9133 rfl rfl rfl rfl rfl (x_kk rfl) (x_kk rfl) rfl (c_X9_isVolume) rfl ?_
    rw [show x_b (0 ≤ v0 ∧ v0 ≤ (if (0 : Int32) = 0 then 0 else 500)) = x_b (0 ≤ v0 ∧ v0 ≤ (if 0 < Ns then 500 else 0)) from x_bq (by rw [if_pos (show (0 : Int32) = 0 by decide), if_neg (by rw [hn, kn_0, n_le (by omega) (by omega)] at h1; omega)])]; exact kk
  · refine f_iconst (M := mX9_addPlot) 16 dX9_addPlot_15 ki_1 rfl ?_
    refine f_goto (M := mX9_addPlot) 20 dX9_addPlot_16 rfl ?_
    refine e_cS (M := mX9_addPlot) [_] 0 0 dX9_addPlot_20 pa_9133 cc_9133 rfl rfl rfl rfl rfl (x_kk rfl) (x_kk rfl) rfl (c_X9_isVolume) rfl ?_
    rw [show x_b (0 ≤ v0 ∧ v0 ≤ (if (1 : Int32) = 0 then 0 else 500)) = x_b (0 ≤ v0 ∧ v0 ≤ (if 0 < Ns then 500 else 0)) from x_bq (by rw [if_neg (show ¬ (1 : Int32) = 0 by decide), if_pos (by rw [hn, kn_0, n_le (by omega) (by omega)] at h1; omega)])]; exact kk
theorem sg_addPlot_1 (hR : x_wf R) {Ns : Nat} (hNs : Ns ≤ 6) (hn : I 226 8 = Int32.ofNat Ns) {v0 v1 v2 v3 v4 v5 : Int32} {r : x_O × x_Mem × Nat} (kk : x_Ev X mX9_addPlot 41 [some (.ref 225), some (.int v0), some (.int v1), some (.int v2), some (.int v3), some (.int v4), some (.int v5), some (.int (I 226 8)), none, none] [.int (x_b (0 ≤ v1 ∧ v1 ≤ (if 1 < Ns then 500 else 0)))] ((I, L, R), 233, 0, 0) r) : x_Ev X mX9_addPlot 26 [some (.ref 225), some (.int v0), some (.int v1), some (.int v2), some (.int v3), some (.int v4), some (.int v5), some (.int (I 226 8)), none, none] [] ((I, L, R), 233, 0, 0) r := by
  refine f_iload_n (M := mX9_addPlot) 27 dX9_addPlot_26 rfl rfl ?_
  refine f_iload (M := mX9_addPlot) 29 dX9_addPlot_27 rfl rfl ?_
  refine f_iconst (M := mX9_addPlot) 30 dX9_addPlot_29 ki_1 rfl ?_
  refine e_icmp_le (M := mX9_addPlot) (t := 37) dX9_addPlot_30 rfl (fun h1 => ?_) (fun h1 => ?_)
  · refine f_iconst (M := mX9_addPlot) 38 dX9_addPlot_37 ki_0 rfl ?_
    refine e_cS (M := mX9_addPlot) [_] 0 0 dX9_addPlot_38 pa_9133 cc_9133 rfl rfl rfl rfl rfl (x_kk rfl) (x_kk rfl) rfl (c_X9_isVolume) rfl ?_
    rw [show x_b (0 ≤ v1 ∧ v1 ≤ (if (0 : Int32) = 0 then 0 else 500)) = x_b (0 ≤ v1 ∧ v1 ≤ (if 1 < Ns then 500 else 0)) from x_bq (by rw [if_pos (show (0 : Int32) = 0 by decide), if_neg (by rw [hn, kn_1, n_le (by omega) (by omega)] at h1; omega)])]; exact kk
  · refine f_iconst (M := mX9_addPlot) 34 dX9_addPlot_33 ki_1 rfl ?_
    refine f_goto (M := mX9_addPlot) 38 dX9_addPlot_34 rfl ?_
    refine e_cS (M := mX9_addPlot) [_] 0 0 dX9_addPlot_38 pa_9133 cc_9133 rfl rfl rfl rfl rfl (x_kk rfl) (x_kk rfl) rfl (c_X9_isVolume) rfl ?_
    rw [show x_b (0 ≤ v1 ∧ v1 ≤ (if (1 : Int32) = 0 then 0 else 500)) = x_b (0 ≤ v1 ∧ v1 ≤ (if 1 < Ns then 500 else 0)) from x_bq (by rw [if_neg (show ¬ (1 : Int32) = 0 by decide), if_pos (by rw [hn, kn_1, n_le (by omega) (by omega)] at h1; omega)])]; exact kk
theorem sg_addPlot_2 (hR : x_wf R) {Ns : Nat} (hNs : Ns ≤ 6) (hn : I 226 8 = Int32.ofNat Ns) {v0 v1 v2 v3 v4 v5 : Int32} {r : x_O × x_Mem × Nat} (kk : x_Ev X mX9_addPlot 59 [some (.ref 225), some (.int v0), some (.int v1), some (.int v2), some (.int v3), some (.int v4), some (.int v5), some (.int (I 226 8)), none, none] [.int (x_b (0 ≤ v2 ∧ v2 ≤ (if 2 < Ns then 500 else 0)))] ((I, L, R), 233, 0, 0) r) : x_Ev X mX9_addPlot 44 [some (.ref 225), some (.int v0), some (.int v1), some (.int v2), some (.int v3), some (.int v4), some (.int v5), some (.int (I 226 8)), none, none] [] ((I, L, R), 233, 0, 0) r := by
  refine f_iload_n (M := mX9_addPlot) 45 dX9_addPlot_44 rfl rfl ?_
  refine f_iload (M := mX9_addPlot) 47 dX9_addPlot_45 rfl rfl ?_
  refine f_iconst (M := mX9_addPlot) 48 dX9_addPlot_47 ki_2 rfl ?_
  refine e_icmp_le (M := mX9_addPlot) (t := 55) dX9_addPlot_48 rfl (fun h1 => ?_) (fun h1 => ?_)
  · refine f_iconst (M := mX9_addPlot) 56 dX9_addPlot_55 ki_0 rfl ?_
    refine e_cS (M := mX9_addPlot) [_] 0 0 dX9_addPlot_56 pa_9133 cc_9133 rfl rfl rfl rfl rfl (x_kk rfl) (x_kk rfl) rfl (c_X9_isVolume) rfl ?_
    rw [show x_b (0 ≤ v2 ∧ v2 ≤ (if (0 : Int32) = 0 then 0 else 500)) = x_b (0 ≤ v2 ∧ v2 ≤ (if 2 < Ns then 500 else 0)) from x_bq (by rw [if_pos (show (0 : Int32) = 0 by decide), if_neg (by rw [hn, kn_2, n_le (by omega) (by omega)] at h1; omega)])]; exact kk
  · refine f_iconst (M := mX9_addPlot) 52 dX9_addPlot_51 ki_1 rfl ?_
    refine f_goto (M := mX9_addPlot) 56 dX9_addPlot_52 rfl ?_
    refine e_cS (M := mX9_addPlot) [_] 0 0 dX9_addPlot_56 pa_9133 cc_9133 rfl rfl rfl rfl rfl (x_kk rfl) (x_kk rfl) rfl (c_X9_isVolume) rfl ?_
    rw [show x_b (0 ≤ v2 ∧ v2 ≤ (if (1 : Int32) = 0 then 0 else 500)) = x_b (0 ≤ v2 ∧ v2 ≤ (if 2 < Ns then 500 else 0)) from x_bq (by rw [if_neg (show ¬ (1 : Int32) = 0 by decide), if_pos (by rw [hn, kn_2, n_le (by omega) (by omega)] at h1; omega)])]; exact kk
theorem sg_addPlot_3 (hR : x_wf R) {Ns : Nat} (hNs : Ns ≤ 6) (hn : I 226 8 = Int32.ofNat Ns) {v0 v1 v2 v3 v4 v5 : Int32} {r : x_O × x_Mem × Nat} (kk : x_Ev X mX9_addPlot 78 [some (.ref 225), some (.int v0), some (.int v1), some (.int v2), some (.int v3), some (.int v4), some (.int v5), some (.int (I 226 8)), none, none] [.int (x_b (0 ≤ v3 ∧ v3 ≤ (if 3 < Ns then 500 else 0)))] ((I, L, R), 233, 0, 0) r) : x_Ev X mX9_addPlot 62 [some (.ref 225), some (.int v0), some (.int v1), some (.int v2), some (.int v3), some (.int v4), some (.int v5), some (.int (I 226 8)), none, none] [] ((I, L, R), 233, 0, 0) r := by
  refine f_iload (M := mX9_addPlot) 64 dX9_addPlot_62 rfl rfl ?_
  refine f_iload (M := mX9_addPlot) 66 dX9_addPlot_64 rfl rfl ?_
  refine f_iconst (M := mX9_addPlot) 67 dX9_addPlot_66 ki_3 rfl ?_
  refine e_icmp_le (M := mX9_addPlot) (t := 74) dX9_addPlot_67 rfl (fun h1 => ?_) (fun h1 => ?_)
  · refine f_iconst (M := mX9_addPlot) 75 dX9_addPlot_74 ki_0 rfl ?_
    refine e_cS (M := mX9_addPlot) [_] 0 0 dX9_addPlot_75 pa_9133 cc_9133 rfl rfl rfl rfl rfl (x_kk rfl) (x_kk rfl) rfl (c_X9_isVolume) rfl ?_
    rw [show x_b (0 ≤ v3 ∧ v3 ≤ (if (0 : Int32) = 0 then 0 else 500)) = x_b (0 ≤ v3 ∧ v3 ≤ (if 3 < Ns then 500 else 0)) from x_bq (by rw [if_pos (show (0 : Int32) = 0 by decide), if_neg (by rw [hn, kn_3, n_le (by omega) (by omega)] at h1; omega)])]; exact kk
  · refine f_iconst (M := mX9_addPlot) 71 dX9_addPlot_70 ki_1 rfl ?_
    refine f_goto (M := mX9_addPlot) 75 dX9_addPlot_71 rfl ?_
    refine e_cS (M := mX9_addPlot) [_] 0 0 dX9_addPlot_75 pa_9133 cc_9133 rfl rfl rfl rfl rfl (x_kk rfl) (x_kk rfl) rfl (c_X9_isVolume) rfl ?_
    rw [show x_b (0 ≤ v3 ∧ v3 ≤ (if (1 : Int32) = 0 then 0 else 500)) = x_b (0 ≤ v3 ∧ v3 ≤ (if 3 < Ns then 500 else 0)) from x_bq (by rw [if_neg (show ¬ (1 : Int32) = 0 by decide), if_pos (by rw [hn, kn_3, n_le (by omega) (by omega)] at h1; omega)])]; exact kk
theorem sg_addPlot_4 (hR : x_wf R) {Ns : Nat} (hNs : Ns ≤ 6) (hn : I 226 8 = Int32.ofNat Ns) {v0 v1 v2 v3 v4 v5 : Int32} {r : x_O × x_Mem × Nat} (kk : x_Ev X mX9_addPlot 97 [some (.ref 225), some (.int v0), some (.int v1), some (.int v2), some (.int v3), some (.int v4), some (.int v5), some (.int (I 226 8)), none, none] [.int (x_b (0 ≤ v4 ∧ v4 ≤ (if 4 < Ns then 500 else 0)))] ((I, L, R), 233, 0, 0) r) : x_Ev X mX9_addPlot 81 [some (.ref 225), some (.int v0), some (.int v1), some (.int v2), some (.int v3), some (.int v4), some (.int v5), some (.int (I 226 8)), none, none] [] ((I, L, R), 233, 0, 0) r := by
  refine f_iload (M := mX9_addPlot) 83 dX9_addPlot_81 rfl rfl ?_
  refine f_iload (M := mX9_addPlot) 85 dX9_addPlot_83 rfl rfl ?_
  refine f_iconst (M := mX9_addPlot) 86 dX9_addPlot_85 ki_4 rfl ?_
  refine e_icmp_le (M := mX9_addPlot) (t := 93) dX9_addPlot_86 rfl (fun h1 => ?_) (fun h1 => ?_)
  · refine f_iconst (M := mX9_addPlot) 94 dX9_addPlot_93 ki_0 rfl ?_
    refine e_cS (M := mX9_addPlot) [_] 0 0 dX9_addPlot_94 pa_9133 cc_9133 rfl rfl rfl rfl rfl (x_kk rfl) (x_kk rfl) rfl (c_X9_isVolume) rfl ?_
    rw [show x_b (0 ≤ v4 ∧ v4 ≤ (if (0 : Int32) = 0 then 0 else 500)) = x_b (0 ≤ v4 ∧ v4 ≤ (if 4 < Ns then 500 else 0)) from x_bq (by rw [if_pos (show (0 : Int32) = 0 by decide), if_neg (by rw [hn, kn_4, n_le (by omega) (by omega)] at h1; omega)])]; exact kk
  · refine f_iconst (M := mX9_addPlot) 90 dX9_addPlot_89 ki_1 rfl ?_
    refine f_goto (M := mX9_addPlot) 94 dX9_addPlot_90 rfl ?_
    refine e_cS (M := mX9_addPlot) [_] 0 0 dX9_addPlot_94 pa_9133 cc_9133 rfl rfl rfl rfl rfl (x_kk rfl) (x_kk rfl) rfl (c_X9_isVolume) rfl ?_
    rw [show x_b (0 ≤ v4 ∧ v4 ≤ (if (1 : Int32) = 0 then 0 else 500)) = x_b (0 ≤ v4 ∧ v4 ≤ (if 4 < Ns then 500 else 0)) from x_bq (by rw [if_neg (show ¬ (1 : Int32) = 0 by decide), if_pos (by rw [hn, kn_4, n_le (by omega) (by omega)] at h1; omega)])]; exact kk
theorem sg_addPlot_5 (hR : x_wf R) {Ns : Nat} (hNs : Ns ≤ 6) (hn : I 226 8 = Int32.ofNat Ns) {v0 v1 v2 v3 v4 v5 : Int32} {r : x_O × x_Mem × Nat} (kk : x_Ev X mX9_addPlot 116 [some (.ref 225), some (.int v0), some (.int v1), some (.int v2), some (.int v3), some (.int v4), some (.int v5), some (.int (I 226 8)), none, none] [.int (x_b (0 ≤ v5 ∧ v5 ≤ (if 5 < Ns then 500 else 0)))] ((I, L, R), 233, 0, 0) r) : x_Ev X mX9_addPlot 100 [some (.ref 225), some (.int v0), some (.int v1), some (.int v2), some (.int v3), some (.int v4), some (.int v5), some (.int (I 226 8)), none, none] [] ((I, L, R), 233, 0, 0) r := by
  refine f_iload (M := mX9_addPlot) 102 dX9_addPlot_100 rfl rfl ?_
  refine f_iload (M := mX9_addPlot) 104 dX9_addPlot_102 rfl rfl ?_
  refine f_iconst (M := mX9_addPlot) 105 dX9_addPlot_104 ki_5 rfl ?_
  refine e_icmp_le (M := mX9_addPlot) (t := 112) dX9_addPlot_105 rfl (fun h1 => ?_) (fun h1 => ?_)
  · refine f_iconst (M := mX9_addPlot) 113 dX9_addPlot_112 ki_0 rfl ?_
    refine e_cS (M := mX9_addPlot) [_] 0 0 dX9_addPlot_113 pa_9133 cc_9133 rfl rfl rfl rfl rfl (x_kk rfl) (x_kk rfl) rfl (c_X9_isVolume) rfl ?_
    rw [show x_b (0 ≤ v5 ∧ v5 ≤ (if (0 : Int32) = 0 then 0 else 500)) = x_b (0 ≤ v5 ∧ v5 ≤ (if 5 < Ns then 500 else 0)) from x_bq (by rw [if_pos (show (0 : Int32) = 0 by decide), if_neg (by rw [hn, kn_5, n_le (by omega) (by omega)] at h1; omega)])]; exact kk
  · refine f_iconst (M := mX9_addPlot) 109 dX9_addPlot_108 ki_1 rfl ?_
    refine f_goto (M := mX9_addPlot) 113 dX9_addPlot_109 rfl ?_
    refine e_cS (M := mX9_addPlot) [_] 0 0 dX9_addPlot_113 pa_9133 cc_9133 rfl rfl rfl rfl rfl (x_kk rfl) (x_kk rfl) rfl (c_X9_isVolume) rfl ?_
    rw [show x_b (0 ≤ v5 ∧ v5 ≤ (if (1 : Int32) = 0 then 0 else 500)) = x_b (0 ≤ v5 ∧ v5 ≤ (if 5 < Ns then 500 else 0)) from x_bq (by rw [if_neg (show ¬ (1 : Int32) = 0 by decide), if_pos (by rw [hn, kn_5, n_le (by omega) (by omega)] at h1; omega)])]; exact kk
theorem mf_addPlot_0 (hR : x_wf R) {Ns Np Nl Nm : Nat} (Z : y_Z (I 226) Ns Np Nl Nm) {v0 : Int32} {v1 : Int32} {v2 : Int32} {v3 : Int32} {v4 : Int32} {v5 : Int32} (h0 : ¬ (0 ≤ v0 ∧ v0 ≤ (if 0 < Ns then 500 else 0)))  : x_Cv X mX9_addPlot [.ref 225, .int v0, .int v1, .int v2, .int v3, .int v4, .int v5] (I, L, R) 233 (.inl (some (.int (0))), (x_tw I 1, L, R), 233) := by
  obtain ⟨hNs, hn, hNp, hp, hNl, hl, hNm, hmm⟩ := Z
  show x_Ev X mX9_addPlot 0 [some (.ref 225), some (.int v0), some (.int v1), some (.int v2), some (.int v3), some (.int v4), some (.int v5), none, none, none] [] ((I, L, R), 233, 0, 0) _
  refine f_aload_n (M := mX9_addPlot) 1 dX9_addPlot_0 rfl rfl ?_
  refine e_getR (M := mX9_addPlot) dX9_addPlot_1 fl_9007 (x_kk rfl) (x_kk rfl) rfl (wf_9_0 hR) ?_
  refine f_bipush (M := mX9_addPlot) 6 dX9_addPlot_4 kb_8 rfl ?_
  refine e_ild (M := mX9_addPlot) (w := 606) (j := 8) dX9_addPlot_6 (x_kk rfl) rfl kn_8 (by omega) (by omega) ?_
  refine f_istore (M := mX9_addPlot) (ls' := [_, _, _, _, _, _, _, _, _, _]) 9 dX9_addPlot_7 rfl rfl rfl ?_
  skip
  refine sg_addPlot_0 hR hNs hn ?_
  refine e_if_eqT (M := mX9_addPlot) 123 dX9_addPlot_23 rfl (x_b0 h0) ?_
  refine f_iconst (M := mX9_addPlot) 124 dX9_addPlot_123 ki_0 rfl ?_
  refine f_istore (M := mX9_addPlot) (ls' := [_, _, _, _, _, _, _, _, _, _]) 126 dX9_addPlot_124 rfl rfl rfl ?_
  refine f_aload_n (M := mX9_addPlot) 127 dX9_addPlot_126 rfl rfl ?_
  refine f_iload (M := mX9_addPlot) 129 dX9_addPlot_127 rfl rfl ?_
  refine e_if_neF (M := mX9_addPlot) 136 dX9_addPlot_129 rfl (show ¬ (¬ (0 : Int32) = 0) by decide) ?_
  refine f_iconst (M := mX9_addPlot) 133 dX9_addPlot_132 ki_1 rfl ?_
  refine f_goto (M := mX9_addPlot) 178 dX9_addPlot_133 rfl ?_
  refine e_putI (M := mX9_addPlot) dX9_addPlot_178 fl_9033 (x_kk rfl) (x_kk rfl) rfl (fun q9 => Bool.noConfusion q9) ?_
  refine f_aload_n (M := mX9_addPlot) 182 dX9_addPlot_181 rfl rfl ?_
  refine e_getI (M := mX9_addPlot) dX9_addPlot_182 fl_9033 (x_kk rfl) (x_kk rfl) rfl ?_
  refine e_if_leF (M := mX9_addPlot) 190 dX9_addPlot_185 rfl (show ¬ ((1 : Int32) ≤ 0) by decide) ?_
  refine f_iconst (M := mX9_addPlot) 189 dX9_addPlot_188 ki_0 rfl ?_
  refine e_ri (M := mX9_addPlot) dX9_addPlot_189 rfl (x_kk rfl) (x_kk rfl) ?_
  rfl
theorem mf_addPlot_1 (hR : x_wf R) {Ns Np Nl Nm : Nat} (Z : y_Z (I 226) Ns Np Nl Nm) {v0 : Int32} {v1 : Int32} {v2 : Int32} {v3 : Int32} {v4 : Int32} {v5 : Int32} (h0 : 0 ≤ v0 ∧ v0 ≤ (if 0 < Ns then 500 else 0)) (h1 : ¬ (0 ≤ v1 ∧ v1 ≤ (if 1 < Ns then 500 else 0)))  : x_Cv X mX9_addPlot [.ref 225, .int v0, .int v1, .int v2, .int v3, .int v4, .int v5] (I, L, R) 233 (.inl (some (.int (0))), (x_tw I 1, L, R), 233) := by
  obtain ⟨hNs, hn, hNp, hp, hNl, hl, hNm, hmm⟩ := Z
  show x_Ev X mX9_addPlot 0 [some (.ref 225), some (.int v0), some (.int v1), some (.int v2), some (.int v3), some (.int v4), some (.int v5), none, none, none] [] ((I, L, R), 233, 0, 0) _
  refine f_aload_n (M := mX9_addPlot) 1 dX9_addPlot_0 rfl rfl ?_
  refine e_getR (M := mX9_addPlot) dX9_addPlot_1 fl_9007 (x_kk rfl) (x_kk rfl) rfl (wf_9_0 hR) ?_
  refine f_bipush (M := mX9_addPlot) 6 dX9_addPlot_4 kb_8 rfl ?_
  refine e_ild (M := mX9_addPlot) (w := 606) (j := 8) dX9_addPlot_6 (x_kk rfl) rfl kn_8 (by omega) (by omega) ?_
  refine f_istore (M := mX9_addPlot) (ls' := [_, _, _, _, _, _, _, _, _, _]) 9 dX9_addPlot_7 rfl rfl rfl ?_
  skip
  refine sg_addPlot_0 hR hNs hn ?_
  refine e_if_eqF (M := mX9_addPlot) 123 dX9_addPlot_23 rfl (x_bn h0) ?_
  skip
  refine sg_addPlot_1 hR hNs hn ?_
  refine e_if_eqT (M := mX9_addPlot) 123 dX9_addPlot_41 rfl (x_b0 h1) ?_
  refine f_iconst (M := mX9_addPlot) 124 dX9_addPlot_123 ki_0 rfl ?_
  refine f_istore (M := mX9_addPlot) (ls' := [_, _, _, _, _, _, _, _, _, _]) 126 dX9_addPlot_124 rfl rfl rfl ?_
  refine f_aload_n (M := mX9_addPlot) 127 dX9_addPlot_126 rfl rfl ?_
  refine f_iload (M := mX9_addPlot) 129 dX9_addPlot_127 rfl rfl ?_
  refine e_if_neF (M := mX9_addPlot) 136 dX9_addPlot_129 rfl (show ¬ (¬ (0 : Int32) = 0) by decide) ?_
  refine f_iconst (M := mX9_addPlot) 133 dX9_addPlot_132 ki_1 rfl ?_
  refine f_goto (M := mX9_addPlot) 178 dX9_addPlot_133 rfl ?_
  refine e_putI (M := mX9_addPlot) dX9_addPlot_178 fl_9033 (x_kk rfl) (x_kk rfl) rfl (fun q9 => Bool.noConfusion q9) ?_
  refine f_aload_n (M := mX9_addPlot) 182 dX9_addPlot_181 rfl rfl ?_
  refine e_getI (M := mX9_addPlot) dX9_addPlot_182 fl_9033 (x_kk rfl) (x_kk rfl) rfl ?_
  refine e_if_leF (M := mX9_addPlot) 190 dX9_addPlot_185 rfl (show ¬ ((1 : Int32) ≤ 0) by decide) ?_
  refine f_iconst (M := mX9_addPlot) 189 dX9_addPlot_188 ki_0 rfl ?_
  refine e_ri (M := mX9_addPlot) dX9_addPlot_189 rfl (x_kk rfl) (x_kk rfl) ?_
  rfl
theorem mf_addPlot_2 (hR : x_wf R) {Ns Np Nl Nm : Nat} (Z : y_Z (I 226) Ns Np Nl Nm) {v0 : Int32} {v1 : Int32} {v2 : Int32} {v3 : Int32} {v4 : Int32} {v5 : Int32} (h0 : 0 ≤ v0 ∧ v0 ≤ (if 0 < Ns then 500 else 0)) (h1 : 0 ≤ v1 ∧ v1 ≤ (if 1 < Ns then 500 else 0)) (h2 : ¬ (0 ≤ v2 ∧ v2 ≤ (if 2 < Ns then 500 else 0)))  : x_Cv X mX9_addPlot [.ref 225, .int v0, .int v1, .int v2, .int v3, .int v4, .int v5] (I, L, R) 233 (.inl (some (.int (0))), (x_tw I 1, L, R), 233) := by
  obtain ⟨hNs, hn, hNp, hp, hNl, hl, hNm, hmm⟩ := Z
  show x_Ev X mX9_addPlot 0 [some (.ref 225), some (.int v0), some (.int v1), some (.int v2), some (.int v3), some (.int v4), some (.int v5), none, none, none] [] ((I, L, R), 233, 0, 0) _
  refine f_aload_n (M := mX9_addPlot) 1 dX9_addPlot_0 rfl rfl ?_
  refine e_getR (M := mX9_addPlot) dX9_addPlot_1 fl_9007 (x_kk rfl) (x_kk rfl) rfl (wf_9_0 hR) ?_
  refine f_bipush (M := mX9_addPlot) 6 dX9_addPlot_4 kb_8 rfl ?_
  refine e_ild (M := mX9_addPlot) (w := 606) (j := 8) dX9_addPlot_6 (x_kk rfl) rfl kn_8 (by omega) (by omega) ?_
  refine f_istore (M := mX9_addPlot) (ls' := [_, _, _, _, _, _, _, _, _, _]) 9 dX9_addPlot_7 rfl rfl rfl ?_
  skip
  refine sg_addPlot_0 hR hNs hn ?_
  refine e_if_eqF (M := mX9_addPlot) 123 dX9_addPlot_23 rfl (x_bn h0) ?_
  skip
  refine sg_addPlot_1 hR hNs hn ?_
  refine e_if_eqF (M := mX9_addPlot) 123 dX9_addPlot_41 rfl (x_bn h1) ?_
  skip
  refine sg_addPlot_2 hR hNs hn ?_
  refine e_if_eqT (M := mX9_addPlot) 123 dX9_addPlot_59 rfl (x_b0 h2) ?_
  refine f_iconst (M := mX9_addPlot) 124 dX9_addPlot_123 ki_0 rfl ?_
  refine f_istore (M := mX9_addPlot) (ls' := [_, _, _, _, _, _, _, _, _, _]) 126 dX9_addPlot_124 rfl rfl rfl ?_
  refine f_aload_n (M := mX9_addPlot) 127 dX9_addPlot_126 rfl rfl ?_
  refine f_iload (M := mX9_addPlot) 129 dX9_addPlot_127 rfl rfl ?_
  refine e_if_neF (M := mX9_addPlot) 136 dX9_addPlot_129 rfl (show ¬ (¬ (0 : Int32) = 0) by decide) ?_
  refine f_iconst (M := mX9_addPlot) 133 dX9_addPlot_132 ki_1 rfl ?_
  refine f_goto (M := mX9_addPlot) 178 dX9_addPlot_133 rfl ?_
  refine e_putI (M := mX9_addPlot) dX9_addPlot_178 fl_9033 (x_kk rfl) (x_kk rfl) rfl (fun q9 => Bool.noConfusion q9) ?_
  refine f_aload_n (M := mX9_addPlot) 182 dX9_addPlot_181 rfl rfl ?_
  refine e_getI (M := mX9_addPlot) dX9_addPlot_182 fl_9033 (x_kk rfl) (x_kk rfl) rfl ?_
  refine e_if_leF (M := mX9_addPlot) 190 dX9_addPlot_185 rfl (show ¬ ((1 : Int32) ≤ 0) by decide) ?_
  refine f_iconst (M := mX9_addPlot) 189 dX9_addPlot_188 ki_0 rfl ?_
  refine e_ri (M := mX9_addPlot) dX9_addPlot_189 rfl (x_kk rfl) (x_kk rfl) ?_
  rfl
theorem mf_addPlot_3 (hR : x_wf R) {Ns Np Nl Nm : Nat} (Z : y_Z (I 226) Ns Np Nl Nm) {v0 : Int32} {v1 : Int32} {v2 : Int32} {v3 : Int32} {v4 : Int32} {v5 : Int32} (h0 : 0 ≤ v0 ∧ v0 ≤ (if 0 < Ns then 500 else 0)) (h1 : 0 ≤ v1 ∧ v1 ≤ (if 1 < Ns then 500 else 0)) (h2 : 0 ≤ v2 ∧ v2 ≤ (if 2 < Ns then 500 else 0)) (h3 : ¬ (0 ≤ v3 ∧ v3 ≤ (if 3 < Ns then 500 else 0)))  : x_Cv X mX9_addPlot [.ref 225, .int v0, .int v1, .int v2, .int v3, .int v4, .int v5] (I, L, R) 233 (.inl (some (.int (0))), (x_tw I 1, L, R), 233) := by
  obtain ⟨hNs, hn, hNp, hp, hNl, hl, hNm, hmm⟩ := Z
  show x_Ev X mX9_addPlot 0 [some (.ref 225), some (.int v0), some (.int v1), some (.int v2), some (.int v3), some (.int v4), some (.int v5), none, none, none] [] ((I, L, R), 233, 0, 0) _
  refine f_aload_n (M := mX9_addPlot) 1 dX9_addPlot_0 rfl rfl ?_
  refine e_getR (M := mX9_addPlot) dX9_addPlot_1 fl_9007 (x_kk rfl) (x_kk rfl) rfl (wf_9_0 hR) ?_
  refine f_bipush (M := mX9_addPlot) 6 dX9_addPlot_4 kb_8 rfl ?_
  refine e_ild (M := mX9_addPlot) (w := 606) (j := 8) dX9_addPlot_6 (x_kk rfl) rfl kn_8 (by omega) (by omega) ?_
  refine f_istore (M := mX9_addPlot) (ls' := [_, _, _, _, _, _, _, _, _, _]) 9 dX9_addPlot_7 rfl rfl rfl ?_
  skip
  refine sg_addPlot_0 hR hNs hn ?_
  refine e_if_eqF (M := mX9_addPlot) 123 dX9_addPlot_23 rfl (x_bn h0) ?_
  skip
  refine sg_addPlot_1 hR hNs hn ?_
  refine e_if_eqF (M := mX9_addPlot) 123 dX9_addPlot_41 rfl (x_bn h1) ?_
  skip
  refine sg_addPlot_2 hR hNs hn ?_
  refine e_if_eqF (M := mX9_addPlot) 123 dX9_addPlot_59 rfl (x_bn h2) ?_
  skip
  refine sg_addPlot_3 hR hNs hn ?_
  refine e_if_eqT (M := mX9_addPlot) 123 dX9_addPlot_78 rfl (x_b0 h3) ?_
  refine f_iconst (M := mX9_addPlot) 124 dX9_addPlot_123 ki_0 rfl ?_
  refine f_istore (M := mX9_addPlot) (ls' := [_, _, _, _, _, _, _, _, _, _]) 126 dX9_addPlot_124 rfl rfl rfl ?_
  refine f_aload_n (M := mX9_addPlot) 127 dX9_addPlot_126 rfl rfl ?_
  refine f_iload (M := mX9_addPlot) 129 dX9_addPlot_127 rfl rfl ?_
  refine e_if_neF (M := mX9_addPlot) 136 dX9_addPlot_129 rfl (show ¬ (¬ (0 : Int32) = 0) by decide) ?_
  refine f_iconst (M := mX9_addPlot) 133 dX9_addPlot_132 ki_1 rfl ?_
  refine f_goto (M := mX9_addPlot) 178 dX9_addPlot_133 rfl ?_
  refine e_putI (M := mX9_addPlot) dX9_addPlot_178 fl_9033 (x_kk rfl) (x_kk rfl) rfl (fun q9 => Bool.noConfusion q9) ?_
  refine f_aload_n (M := mX9_addPlot) 182 dX9_addPlot_181 rfl rfl ?_
  refine e_getI (M := mX9_addPlot) dX9_addPlot_182 fl_9033 (x_kk rfl) (x_kk rfl) rfl ?_
  refine e_if_leF (M := mX9_addPlot) 190 dX9_addPlot_185 rfl (show ¬ ((1 : Int32) ≤ 0) by decide) ?_
  refine f_iconst (M := mX9_addPlot) 189 dX9_addPlot_188 ki_0 rfl ?_
  refine e_ri (M := mX9_addPlot) dX9_addPlot_189 rfl (x_kk rfl) (x_kk rfl) ?_
  rfl
theorem mf_addPlot_4 (hR : x_wf R) {Ns Np Nl Nm : Nat} (Z : y_Z (I 226) Ns Np Nl Nm) {v0 : Int32} {v1 : Int32} {v2 : Int32} {v3 : Int32} {v4 : Int32} {v5 : Int32} (h0 : 0 ≤ v0 ∧ v0 ≤ (if 0 < Ns then 500 else 0)) (h1 : 0 ≤ v1 ∧ v1 ≤ (if 1 < Ns then 500 else 0)) (h2 : 0 ≤ v2 ∧ v2 ≤ (if 2 < Ns then 500 else 0)) (h3 : 0 ≤ v3 ∧ v3 ≤ (if 3 < Ns then 500 else 0)) (h4 : ¬ (0 ≤ v4 ∧ v4 ≤ (if 4 < Ns then 500 else 0)))  : x_Cv X mX9_addPlot [.ref 225, .int v0, .int v1, .int v2, .int v3, .int v4, .int v5] (I, L, R) 233 (.inl (some (.int (0))), (x_tw I 1, L, R), 233) := by
  obtain ⟨hNs, hn, hNp, hp, hNl, hl, hNm, hmm⟩ := Z
  show x_Ev X mX9_addPlot 0 [some (.ref 225), some (.int v0), some (.int v1), some (.int v2), some (.int v3), some (.int v4), some (.int v5), none, none, none] [] ((I, L, R), 233, 0, 0) _
  refine f_aload_n (M := mX9_addPlot) 1 dX9_addPlot_0 rfl rfl ?_
  refine e_getR (M := mX9_addPlot) dX9_addPlot_1 fl_9007 (x_kk rfl) (x_kk rfl) rfl (wf_9_0 hR) ?_
  refine f_bipush (M := mX9_addPlot) 6 dX9_addPlot_4 kb_8 rfl ?_
  refine e_ild (M := mX9_addPlot) (w := 606) (j := 8) dX9_addPlot_6 (x_kk rfl) rfl kn_8 (by omega) (by omega) ?_
  refine f_istore (M := mX9_addPlot) (ls' := [_, _, _, _, _, _, _, _, _, _]) 9 dX9_addPlot_7 rfl rfl rfl ?_
  skip
  refine sg_addPlot_0 hR hNs hn ?_
  refine e_if_eqF (M := mX9_addPlot) 123 dX9_addPlot_23 rfl (x_bn h0) ?_
  skip
  refine sg_addPlot_1 hR hNs hn ?_
  refine e_if_eqF (M := mX9_addPlot) 123 dX9_addPlot_41 rfl (x_bn h1) ?_
  skip
  refine sg_addPlot_2 hR hNs hn ?_
  refine e_if_eqF (M := mX9_addPlot) 123 dX9_addPlot_59 rfl (x_bn h2) ?_
  skip
  refine sg_addPlot_3 hR hNs hn ?_
  refine e_if_eqF (M := mX9_addPlot) 123 dX9_addPlot_78 rfl (x_bn h3) ?_
  skip
  refine sg_addPlot_4 hR hNs hn ?_
  refine e_if_eqT (M := mX9_addPlot) 123 dX9_addPlot_97 rfl (x_b0 h4) ?_
  refine f_iconst (M := mX9_addPlot) 124 dX9_addPlot_123 ki_0 rfl ?_
  refine f_istore (M := mX9_addPlot) (ls' := [_, _, _, _, _, _, _, _, _, _]) 126 dX9_addPlot_124 rfl rfl rfl ?_
  refine f_aload_n (M := mX9_addPlot) 127 dX9_addPlot_126 rfl rfl ?_
  refine f_iload (M := mX9_addPlot) 129 dX9_addPlot_127 rfl rfl ?_
  refine e_if_neF (M := mX9_addPlot) 136 dX9_addPlot_129 rfl (show ¬ (¬ (0 : Int32) = 0) by decide) ?_
  refine f_iconst (M := mX9_addPlot) 133 dX9_addPlot_132 ki_1 rfl ?_
  refine f_goto (M := mX9_addPlot) 178 dX9_addPlot_133 rfl ?_
  refine e_putI (M := mX9_addPlot) dX9_addPlot_178 fl_9033 (x_kk rfl) (x_kk rfl) rfl (fun q9 => Bool.noConfusion q9) ?_
  refine f_aload_n (M := mX9_addPlot) 182 dX9_addPlot_181 rfl rfl ?_
  refine e_getI (M := mX9_addPlot) dX9_addPlot_182 fl_9033 (x_kk rfl) (x_kk rfl) rfl ?_
  refine e_if_leF (M := mX9_addPlot) 190 dX9_addPlot_185 rfl (show ¬ ((1 : Int32) ≤ 0) by decide) ?_
  refine f_iconst (M := mX9_addPlot) 189 dX9_addPlot_188 ki_0 rfl ?_
  refine e_ri (M := mX9_addPlot) dX9_addPlot_189 rfl (x_kk rfl) (x_kk rfl) ?_
  rfl
theorem mf_addPlot_5 (hR : x_wf R) {Ns Np Nl Nm : Nat} (Z : y_Z (I 226) Ns Np Nl Nm) {v0 : Int32} {v1 : Int32} {v2 : Int32} {v3 : Int32} {v4 : Int32} {v5 : Int32} (h0 : 0 ≤ v0 ∧ v0 ≤ (if 0 < Ns then 500 else 0)) (h1 : 0 ≤ v1 ∧ v1 ≤ (if 1 < Ns then 500 else 0)) (h2 : 0 ≤ v2 ∧ v2 ≤ (if 2 < Ns then 500 else 0)) (h3 : 0 ≤ v3 ∧ v3 ≤ (if 3 < Ns then 500 else 0)) (h4 : 0 ≤ v4 ∧ v4 ≤ (if 4 < Ns then 500 else 0)) (h5 : ¬ (0 ≤ v5 ∧ v5 ≤ (if 5 < Ns then 500 else 0)))  : x_Cv X mX9_addPlot [.ref 225, .int v0, .int v1, .int v2, .int v3, .int v4, .int v5] (I, L, R) 233 (.inl (some (.int (0))), (x_tw I 1, L, R), 233) := by
  obtain ⟨hNs, hn, hNp, hp, hNl, hl, hNm, hmm⟩ := Z
  show x_Ev X mX9_addPlot 0 [some (.ref 225), some (.int v0), some (.int v1), some (.int v2), some (.int v3), some (.int v4), some (.int v5), none, none, none] [] ((I, L, R), 233, 0, 0) _
  refine f_aload_n (M := mX9_addPlot) 1 dX9_addPlot_0 rfl rfl ?_
  refine e_getR (M := mX9_addPlot) dX9_addPlot_1 fl_9007 (x_kk rfl) (x_kk rfl) rfl (wf_9_0 hR) ?_
  refine f_bipush (M := mX9_addPlot) 6 dX9_addPlot_4 kb_8 rfl ?_
  refine e_ild (M := mX9_addPlot) (w := 606) (j := 8) dX9_addPlot_6 (x_kk rfl) rfl kn_8 (by omega) (by omega) ?_
  refine f_istore (M := mX9_addPlot) (ls' := [_, _, _, _, _, _, _, _, _, _]) 9 dX9_addPlot_7 rfl rfl rfl ?_
  skip
  refine sg_addPlot_0 hR hNs hn ?_
  refine e_if_eqF (M := mX9_addPlot) 123 dX9_addPlot_23 rfl (x_bn h0) ?_
  skip
  refine sg_addPlot_1 hR hNs hn ?_
  refine e_if_eqF (M := mX9_addPlot) 123 dX9_addPlot_41 rfl (x_bn h1) ?_
  skip
  refine sg_addPlot_2 hR hNs hn ?_
  refine e_if_eqF (M := mX9_addPlot) 123 dX9_addPlot_59 rfl (x_bn h2) ?_
  skip
  refine sg_addPlot_3 hR hNs hn ?_
  refine e_if_eqF (M := mX9_addPlot) 123 dX9_addPlot_78 rfl (x_bn h3) ?_
  skip
  refine sg_addPlot_4 hR hNs hn ?_
  refine e_if_eqF (M := mX9_addPlot) 123 dX9_addPlot_97 rfl (x_bn h4) ?_
  skip
  refine sg_addPlot_5 hR hNs hn ?_
  refine e_if_eqT (M := mX9_addPlot) 123 dX9_addPlot_116 rfl (x_b0 h5) ?_
  refine f_iconst (M := mX9_addPlot) 124 dX9_addPlot_123 ki_0 rfl ?_
  refine f_istore (M := mX9_addPlot) (ls' := [_, _, _, _, _, _, _, _, _, _]) 126 dX9_addPlot_124 rfl rfl rfl ?_
  refine f_aload_n (M := mX9_addPlot) 127 dX9_addPlot_126 rfl rfl ?_
  refine f_iload (M := mX9_addPlot) 129 dX9_addPlot_127 rfl rfl ?_
  refine e_if_neF (M := mX9_addPlot) 136 dX9_addPlot_129 rfl (show ¬ (¬ (0 : Int32) = 0) by decide) ?_
  refine f_iconst (M := mX9_addPlot) 133 dX9_addPlot_132 ki_1 rfl ?_
  refine f_goto (M := mX9_addPlot) 178 dX9_addPlot_133 rfl ?_
  refine e_putI (M := mX9_addPlot) dX9_addPlot_178 fl_9033 (x_kk rfl) (x_kk rfl) rfl (fun q9 => Bool.noConfusion q9) ?_
  refine f_aload_n (M := mX9_addPlot) 182 dX9_addPlot_181 rfl rfl ?_
  refine e_getI (M := mX9_addPlot) dX9_addPlot_182 fl_9033 (x_kk rfl) (x_kk rfl) rfl ?_
  refine e_if_leF (M := mX9_addPlot) 190 dX9_addPlot_185 rfl (show ¬ ((1 : Int32) ≤ 0) by decide) ?_
  refine f_iconst (M := mX9_addPlot) 189 dX9_addPlot_188 ki_0 rfl ?_
  refine e_ri (M := mX9_addPlot) dX9_addPlot_189 rfl (x_kk rfl) (x_kk rfl) ?_
  rfl
theorem mf_addPlot_6 (hR : x_wf R) {Ns Np Nl Nm : Nat} (Z : y_Z (I 226) Ns Np Nl Nm) {v0 : Int32} {v1 : Int32} {v2 : Int32} {v3 : Int32} {v4 : Int32} {v5 : Int32} (h0 : 0 ≤ v0 ∧ v0 ≤ (if 0 < Ns then 500 else 0)) (h1 : 0 ≤ v1 ∧ v1 ≤ (if 1 < Ns then 500 else 0)) (h2 : 0 ≤ v2 ∧ v2 ≤ (if 2 < Ns then 500 else 0)) (h3 : 0 ≤ v3 ∧ v3 ≤ (if 3 < Ns then 500 else 0)) (h4 : 0 ≤ v4 ∧ v4 ≤ (if 4 < Ns then 500 else 0)) (h5 : 0 ≤ v5 ∧ v5 ≤ (if 5 < Ns then 500 else 0)) (h6 : ¬ (I 226 0 = 0))  : x_Cv X mX9_addPlot [.ref 225, .int v0, .int v1, .int v2, .int v3, .int v4, .int v5] (I, L, R) 233 (.inl (some (.int (0))), (x_tw I 2, L, R), 233) := by
  obtain ⟨hNs, hn, hNp, hp, hNl, hl, hNm, hmm⟩ := Z
  show x_Ev X mX9_addPlot 0 [some (.ref 225), some (.int v0), some (.int v1), some (.int v2), some (.int v3), some (.int v4), some (.int v5), none, none, none] [] ((I, L, R), 233, 0, 0) _
  refine f_aload_n (M := mX9_addPlot) 1 dX9_addPlot_0 rfl rfl ?_
  refine e_getR (M := mX9_addPlot) dX9_addPlot_1 fl_9007 (x_kk rfl) (x_kk rfl) rfl (wf_9_0 hR) ?_
  refine f_bipush (M := mX9_addPlot) 6 dX9_addPlot_4 kb_8 rfl ?_
  refine e_ild (M := mX9_addPlot) (w := 606) (j := 8) dX9_addPlot_6 (x_kk rfl) rfl kn_8 (by omega) (by omega) ?_
  refine f_istore (M := mX9_addPlot) (ls' := [_, _, _, _, _, _, _, _, _, _]) 9 dX9_addPlot_7 rfl rfl rfl ?_
  skip
  refine sg_addPlot_0 hR hNs hn ?_
  refine e_if_eqF (M := mX9_addPlot) 123 dX9_addPlot_23 rfl (x_bn h0) ?_
  skip
  refine sg_addPlot_1 hR hNs hn ?_
  refine e_if_eqF (M := mX9_addPlot) 123 dX9_addPlot_41 rfl (x_bn h1) ?_
  skip
  refine sg_addPlot_2 hR hNs hn ?_
  refine e_if_eqF (M := mX9_addPlot) 123 dX9_addPlot_59 rfl (x_bn h2) ?_
  skip
  refine sg_addPlot_3 hR hNs hn ?_
  refine e_if_eqF (M := mX9_addPlot) 123 dX9_addPlot_78 rfl (x_bn h3) ?_
  skip
  refine sg_addPlot_4 hR hNs hn ?_
  refine e_if_eqF (M := mX9_addPlot) 123 dX9_addPlot_97 rfl (x_bn h4) ?_
  skip
  refine sg_addPlot_5 hR hNs hn ?_
  refine e_if_eqF (M := mX9_addPlot) 123 dX9_addPlot_116 rfl (x_bn h5) ?_
  refine f_iconst (M := mX9_addPlot) 120 dX9_addPlot_119 ki_1 rfl ?_
  refine f_goto (M := mX9_addPlot) 124 dX9_addPlot_120 rfl ?_
  refine f_istore (M := mX9_addPlot) (ls' := [_, _, _, _, _, _, _, _, _, _]) 126 dX9_addPlot_124 rfl rfl rfl ?_
  refine f_aload_n (M := mX9_addPlot) 127 dX9_addPlot_126 rfl rfl ?_
  refine f_iload (M := mX9_addPlot) 129 dX9_addPlot_127 rfl rfl ?_
  refine e_if_neT (M := mX9_addPlot) 136 dX9_addPlot_129 rfl (show ¬ (1 : Int32) = 0 by decide) ?_
  refine f_aload_n (M := mX9_addPlot) 137 dX9_addPlot_136 rfl rfl ?_
  refine e_getR (M := mX9_addPlot) dX9_addPlot_137 fl_9007 (x_kk rfl) (x_kk rfl) rfl (wf_9_0 hR) ?_
  refine f_iconst (M := mX9_addPlot) 141 dX9_addPlot_140 ki_0 rfl ?_
  refine e_ild (M := mX9_addPlot) (w := 606) (j := 0) dX9_addPlot_141 (x_kk rfl) rfl kn_0 (by omega) (by omega) ?_
  refine e_if_neT (M := mX9_addPlot) 173 dX9_addPlot_142 rfl h6 ?_
  refine f_iconst (M := mX9_addPlot) 174 dX9_addPlot_173 ki_2 rfl ?_
  refine f_goto (M := mX9_addPlot) 178 dX9_addPlot_174 rfl ?_
  refine e_putI (M := mX9_addPlot) dX9_addPlot_178 fl_9033 (x_kk rfl) (x_kk rfl) rfl (fun q9 => Bool.noConfusion q9) ?_
  refine f_aload_n (M := mX9_addPlot) 182 dX9_addPlot_181 rfl rfl ?_
  refine e_getI (M := mX9_addPlot) dX9_addPlot_182 fl_9033 (x_kk rfl) (x_kk rfl) rfl ?_
  refine e_if_leF (M := mX9_addPlot) 190 dX9_addPlot_185 rfl (show ¬ ((2 : Int32) ≤ 0) by decide) ?_
  refine f_iconst (M := mX9_addPlot) 189 dX9_addPlot_188 ki_0 rfl ?_
  refine e_ri (M := mX9_addPlot) dX9_addPlot_189 rfl (x_kk rfl) (x_kk rfl) ?_
  rfl
theorem mf_addPlot_7 (hR : x_wf R) {Ns Np Nl Nm : Nat} (Z : y_Z (I 226) Ns Np Nl Nm) {v0 : Int32} {v1 : Int32} {v2 : Int32} {v3 : Int32} {v4 : Int32} {v5 : Int32} (h0 : 0 ≤ v0 ∧ v0 ≤ (if 0 < Ns then 500 else 0)) (h1 : 0 ≤ v1 ∧ v1 ≤ (if 1 < Ns then 500 else 0)) (h2 : 0 ≤ v2 ∧ v2 ≤ (if 2 < Ns then 500 else 0)) (h3 : 0 ≤ v3 ∧ v3 ≤ (if 3 < Ns then 500 else 0)) (h4 : 0 ≤ v4 ∧ v4 ≤ (if 4 < Ns then 500 else 0)) (h5 : 0 ≤ v5 ∧ v5 ≤ (if 5 < Ns then 500 else 0)) (h6 : I 226 0 = 0) (h7 : ¬ (¬ I 226 9 = 30 ∧ ¬ I 226 9 = I 226 1))  : x_Cv X mX9_addPlot [.ref 225, .int v0, .int v1, .int v2, .int v3, .int v4, .int v5] (I, L, R) 233 (.inl (some (.int (0))), (x_tw I 2, L, R), 233) := by
  obtain ⟨hNs, hn, hNp, hp, hNl, hl, hNm, hmm⟩ := Z
  show x_Ev X mX9_addPlot 0 [some (.ref 225), some (.int v0), some (.int v1), some (.int v2), some (.int v3), some (.int v4), some (.int v5), none, none, none] [] ((I, L, R), 233, 0, 0) _
  refine f_aload_n (M := mX9_addPlot) 1 dX9_addPlot_0 rfl rfl ?_
  refine e_getR (M := mX9_addPlot) dX9_addPlot_1 fl_9007 (x_kk rfl) (x_kk rfl) rfl (wf_9_0 hR) ?_
  refine f_bipush (M := mX9_addPlot) 6 dX9_addPlot_4 kb_8 rfl ?_
  refine e_ild (M := mX9_addPlot) (w := 606) (j := 8) dX9_addPlot_6 (x_kk rfl) rfl kn_8 (by omega) (by omega) ?_
  refine f_istore (M := mX9_addPlot) (ls' := [_, _, _, _, _, _, _, _, _, _]) 9 dX9_addPlot_7 rfl rfl rfl ?_
  skip
  refine sg_addPlot_0 hR hNs hn ?_
  refine e_if_eqF (M := mX9_addPlot) 123 dX9_addPlot_23 rfl (x_bn h0) ?_
  skip
  refine sg_addPlot_1 hR hNs hn ?_
  refine e_if_eqF (M := mX9_addPlot) 123 dX9_addPlot_41 rfl (x_bn h1) ?_
  skip
  refine sg_addPlot_2 hR hNs hn ?_
  refine e_if_eqF (M := mX9_addPlot) 123 dX9_addPlot_59 rfl (x_bn h2) ?_
  skip
  refine sg_addPlot_3 hR hNs hn ?_
  refine e_if_eqF (M := mX9_addPlot) 123 dX9_addPlot_78 rfl (x_bn h3) ?_
  skip
  refine sg_addPlot_4 hR hNs hn ?_
  refine e_if_eqF (M := mX9_addPlot) 123 dX9_addPlot_97 rfl (x_bn h4) ?_
  skip
  refine sg_addPlot_5 hR hNs hn ?_
  refine e_if_eqF (M := mX9_addPlot) 123 dX9_addPlot_116 rfl (x_bn h5) ?_
  refine f_iconst (M := mX9_addPlot) 120 dX9_addPlot_119 ki_1 rfl ?_
  refine f_goto (M := mX9_addPlot) 124 dX9_addPlot_120 rfl ?_
  refine f_istore (M := mX9_addPlot) (ls' := [_, _, _, _, _, _, _, _, _, _]) 126 dX9_addPlot_124 rfl rfl rfl ?_
  refine f_aload_n (M := mX9_addPlot) 127 dX9_addPlot_126 rfl rfl ?_
  refine f_iload (M := mX9_addPlot) 129 dX9_addPlot_127 rfl rfl ?_
  refine e_if_neT (M := mX9_addPlot) 136 dX9_addPlot_129 rfl (show ¬ (1 : Int32) = 0 by decide) ?_
  refine f_aload_n (M := mX9_addPlot) 137 dX9_addPlot_136 rfl rfl ?_
  refine e_getR (M := mX9_addPlot) dX9_addPlot_137 fl_9007 (x_kk rfl) (x_kk rfl) rfl (wf_9_0 hR) ?_
  refine f_iconst (M := mX9_addPlot) 141 dX9_addPlot_140 ki_0 rfl ?_
  refine e_ild (M := mX9_addPlot) (w := 606) (j := 0) dX9_addPlot_141 (x_kk rfl) rfl kn_0 (by omega) (by omega) ?_
  refine e_if_neF (M := mX9_addPlot) 173 dX9_addPlot_142 rfl (fun z => z h6) ?_
  refine f_aload_n (M := mX9_addPlot) 146 dX9_addPlot_145 rfl rfl ?_
  refine e_getR (M := mX9_addPlot) dX9_addPlot_146 fl_9007 (x_kk rfl) (x_kk rfl) rfl (wf_9_0 hR) ?_
  refine f_bipush (M := mX9_addPlot) 151 dX9_addPlot_149 kb_9 rfl ?_
  refine e_ild (M := mX9_addPlot) (w := 606) (j := 9) dX9_addPlot_151 (x_kk rfl) rfl kn_9 (by omega) (by omega) ?_
  refine f_bipush (M := mX9_addPlot) 154 dX9_addPlot_152 kb_30 rfl ?_
  refine e_icmp_eq (M := mX9_addPlot) (t := 173) dX9_addPlot_154 rfl (fun g1 => ?_) (fun g1 => ?_)
  · refine f_iconst (M := mX9_addPlot) 174 dX9_addPlot_173 ki_2 rfl ?_
    refine f_goto (M := mX9_addPlot) 178 dX9_addPlot_174 rfl ?_
    refine e_putI (M := mX9_addPlot) dX9_addPlot_178 fl_9033 (x_kk rfl) (x_kk rfl) rfl (fun q9 => Bool.noConfusion q9) ?_
    refine f_aload_n (M := mX9_addPlot) 182 dX9_addPlot_181 rfl rfl ?_
    refine e_getI (M := mX9_addPlot) dX9_addPlot_182 fl_9033 (x_kk rfl) (x_kk rfl) rfl ?_
    refine e_if_leF (M := mX9_addPlot) 190 dX9_addPlot_185 rfl (show ¬ ((2 : Int32) ≤ 0) by decide) ?_
    refine f_iconst (M := mX9_addPlot) 189 dX9_addPlot_188 ki_0 rfl ?_
    refine e_ri (M := mX9_addPlot) dX9_addPlot_189 rfl (x_kk rfl) (x_kk rfl) ?_
    rfl
  · refine f_aload_n (M := mX9_addPlot) 158 dX9_addPlot_157 rfl rfl ?_
    refine e_getR (M := mX9_addPlot) dX9_addPlot_158 fl_9007 (x_kk rfl) (x_kk rfl) rfl (wf_9_0 hR) ?_
    refine f_bipush (M := mX9_addPlot) 163 dX9_addPlot_161 kb_9 rfl ?_
    refine e_ild (M := mX9_addPlot) (w := 606) (j := 9) dX9_addPlot_163 (x_kk rfl) rfl kn_9 (by omega) (by omega) ?_
    refine f_aload_n (M := mX9_addPlot) 165 dX9_addPlot_164 rfl rfl ?_
    refine e_getR (M := mX9_addPlot) dX9_addPlot_165 fl_9007 (x_kk rfl) (x_kk rfl) rfl (wf_9_0 hR) ?_
    refine f_iconst (M := mX9_addPlot) 169 dX9_addPlot_168 ki_1 rfl ?_
    refine e_ild (M := mX9_addPlot) (w := 606) (j := 1) dX9_addPlot_169 (x_kk rfl) rfl kn_1 (by omega) (by omega) ?_
    refine e_icmp_neF (M := mX9_addPlot) 177 dX9_addPlot_170 rfl (fun z => h7 ⟨g1, z⟩) ?_
    refine f_iconst (M := mX9_addPlot) 174 dX9_addPlot_173 ki_2 rfl ?_
    refine f_goto (M := mX9_addPlot) 178 dX9_addPlot_174 rfl ?_
    refine e_putI (M := mX9_addPlot) dX9_addPlot_178 fl_9033 (x_kk rfl) (x_kk rfl) rfl (fun q9 => Bool.noConfusion q9) ?_
    refine f_aload_n (M := mX9_addPlot) 182 dX9_addPlot_181 rfl rfl ?_
    refine e_getI (M := mX9_addPlot) dX9_addPlot_182 fl_9033 (x_kk rfl) (x_kk rfl) rfl ?_
    refine e_if_leF (M := mX9_addPlot) 190 dX9_addPlot_185 rfl (show ¬ ((2 : Int32) ≤ 0) by decide) ?_
    refine f_iconst (M := mX9_addPlot) 189 dX9_addPlot_188 ki_0 rfl ?_
    refine e_ri (M := mX9_addPlot) dX9_addPlot_189 rfl (x_kk rfl) (x_kk rfl) ?_
    rfl
theorem c_X2_add (hR : x_wf R) {β : Nat} (hβ : x_sl β) {Np : Nat} (hNp : Np < 30) (hp : I (β + 5) 0 = Int32.ofNat Np) {v0 v1 v2 v3 v4 v5 : Int32} : x_Cv X mX2_add [.ref (β + 5), .int v0, .int v1, .int v2, .int v3, .int v4, .int v5] (I, L, R) 233 (.inl none, ((va_up (va_up I (β + 6) (va_up (va_up (va_up (va_up (va_up (va_up (I (β + 6)) (Np * 6) v0) (Np * 6 + 1) v1) (Np * 6 + 2) v2) (Np * 6 + 3) v3) (Np * 6 + 4) v4) (Np * 6 + 5) v5)) (β + 5) (va_up (I (β + 5)) 0 (I (β + 5) 0 + 1))), L, R), 233) := by
  show x_Ev X mX2_add 0 [some (.ref (β + 5)), some (.int v0), some (.int v1), some (.int v2), some (.int v3), some (.int v4), some (.int v5), none] [] ((I, L, R), 233, 0, 0) _
  refine f_aload_n (M := mX2_add) 1 dX2_add_0 rfl rfl ?_
  refine e_getI (M := mX2_add) dX2_add_1 fl_2015 (x_kk rfl) (sl_lt hβ 5 rfl) (sl_s hβ 5 rfl rfl) ?_
  refine f_bipush (M := mX2_add) 6 dX2_add_4 kb_6 rfl ?_
  refine f_imul (M := mX2_add) 7 dX2_add_6 rfl ?_
  refine f_istore (M := mX2_add) (ls' := [_, _, _, _, _, _, _, _]) 9 dX2_add_7 rfl rfl rfl ?_
  refine f_aload_n (M := mX2_add) 10 dX2_add_9 rfl rfl ?_
  refine e_getR (M := mX2_add) dX2_add_10 fl_2009 (x_kk rfl) (sl_lt hβ 5 rfl) (sl_s hβ 5 rfl rfl) (wf_2_1 hR hβ) ?_
  refine f_iload (M := mX2_add) 15 dX2_add_13 rfl rfl ?_
  refine f_iload_n (M := mX2_add) 16 dX2_add_15 rfl rfl ?_
  refine e_ist (M := mX2_add) (w := 180) (j := (Np) * (6)) dX2_add_16 (sl_lt hβ 6 rfl) (sl_shp hβ 6 rfl) (ix_mul hp kn_6) (by omega) (by omega) ?_
  refine f_aload_n (M := mX2_add) 18 dX2_add_17 rfl rfl ?_
  refine e_getR (M := mX2_add) dX2_add_18 fl_2009 (x_kk rfl) (sl_lt hβ 5 rfl) (sl_s hβ 5 rfl rfl) (wf_2_1 hR hβ) ?_
  refine f_iload (M := mX2_add) 23 dX2_add_21 rfl rfl ?_
  refine f_iconst (M := mX2_add) 24 dX2_add_23 ki_1 rfl ?_
  refine f_iadd (M := mX2_add) 25 dX2_add_24 rfl ?_
  refine f_iload_n (M := mX2_add) 26 dX2_add_25 rfl rfl ?_
  refine e_ist (M := mX2_add) (w := 180) (j := ((Np) * (6)) + (1)) dX2_add_26 (sl_lt hβ 6 rfl) (sl_shp hβ 6 rfl) (ix_add (ix_mul hp kn_6) kn_1) (by omega) (by omega) ?_
  refine f_aload_n (M := mX2_add) 28 dX2_add_27 rfl rfl ?_
  refine e_getR (M := mX2_add) dX2_add_28 fl_2009 (x_kk rfl) (sl_lt hβ 5 rfl) (sl_s hβ 5 rfl rfl) (wf_2_1 hR hβ) ?_
  refine f_iload (M := mX2_add) 33 dX2_add_31 rfl rfl ?_
  refine f_iconst (M := mX2_add) 34 dX2_add_33 ki_2 rfl ?_
  refine f_iadd (M := mX2_add) 35 dX2_add_34 rfl ?_
  refine f_iload_n (M := mX2_add) 36 dX2_add_35 rfl rfl ?_
  refine e_ist (M := mX2_add) (w := 180) (j := ((Np) * (6)) + (2)) dX2_add_36 (sl_lt hβ 6 rfl) (sl_shp hβ 6 rfl) (ix_add (ix_mul hp kn_6) kn_2) (by omega) (by omega) ?_
  refine f_aload_n (M := mX2_add) 38 dX2_add_37 rfl rfl ?_
  refine e_getR (M := mX2_add) dX2_add_38 fl_2009 (x_kk rfl) (sl_lt hβ 5 rfl) (sl_s hβ 5 rfl rfl) (wf_2_1 hR hβ) ?_
  refine f_iload (M := mX2_add) 43 dX2_add_41 rfl rfl ?_
  refine f_iconst (M := mX2_add) 44 dX2_add_43 ki_3 rfl ?_
  refine f_iadd (M := mX2_add) 45 dX2_add_44 rfl ?_
  refine f_iload (M := mX2_add) 47 dX2_add_45 rfl rfl ?_
  refine e_ist (M := mX2_add) (w := 180) (j := ((Np) * (6)) + (3)) dX2_add_47 (sl_lt hβ 6 rfl) (sl_shp hβ 6 rfl) (ix_add (ix_mul hp kn_6) kn_3) (by omega) (by omega) ?_
  refine f_aload_n (M := mX2_add) 49 dX2_add_48 rfl rfl ?_
  refine e_getR (M := mX2_add) dX2_add_49 fl_2009 (x_kk rfl) (sl_lt hβ 5 rfl) (sl_s hβ 5 rfl rfl) (wf_2_1 hR hβ) ?_
  refine f_iload (M := mX2_add) 54 dX2_add_52 rfl rfl ?_
  refine f_iconst (M := mX2_add) 55 dX2_add_54 ki_4 rfl ?_
  refine f_iadd (M := mX2_add) 56 dX2_add_55 rfl ?_
  refine f_iload (M := mX2_add) 58 dX2_add_56 rfl rfl ?_
  refine e_ist (M := mX2_add) (w := 180) (j := ((Np) * (6)) + (4)) dX2_add_58 (sl_lt hβ 6 rfl) (sl_shp hβ 6 rfl) (ix_add (ix_mul hp kn_6) kn_4) (by omega) (by omega) ?_
  refine f_aload_n (M := mX2_add) 60 dX2_add_59 rfl rfl ?_
  refine e_getR (M := mX2_add) dX2_add_60 fl_2009 (x_kk rfl) (sl_lt hβ 5 rfl) (sl_s hβ 5 rfl rfl) (wf_2_1 hR hβ) ?_
  refine f_iload (M := mX2_add) 65 dX2_add_63 rfl rfl ?_
  refine f_iconst (M := mX2_add) 66 dX2_add_65 ki_5 rfl ?_
  refine f_iadd (M := mX2_add) 67 dX2_add_66 rfl ?_
  refine f_iload (M := mX2_add) 69 dX2_add_67 rfl rfl ?_
  refine e_ist (M := mX2_add) (w := 180) (j := ((Np) * (6)) + (5)) dX2_add_69 (sl_lt hβ 6 rfl) (sl_shp hβ 6 rfl) (ix_add (ix_mul hp kn_6) kn_5) (by omega) (by omega) ?_
  refine f_aload_n (M := mX2_add) 71 dX2_add_70 rfl rfl ?_
  refine f_dup (M := mX2_add) 72 dX2_add_71 rfl rfl ?_
  refine e_getI (M := mX2_add) dX2_add_72 fl_2015 (x_kk rfl) (sl_lt hβ 5 rfl) (sl_s hβ 5 rfl rfl) ?_
  refine f_iconst (M := mX2_add) 76 dX2_add_75 ki_1 rfl ?_
  refine f_iadd (M := mX2_add) 77 dX2_add_76 rfl ?_
  refine e_putI (M := mX2_add) dX2_add_77 fl_2015 (x_kk rfl) (sl_lt hβ 5 rfl) (sl_s hβ 5 rfl rfl) (fun q9 => Bool.noConfusion q9) ?_
  refine e_rv (M := mX2_add) dX2_add_80 rfl (x_kk rfl) (x_kk rfl) ?_
  exact (by simp only [x_up_self, up_up, x_up_ne _ _ (show β + 5 ≠ β + 6 by omega)])
theorem pl_1 {x : Int32} {n : Nat} (h : x = Int32.ofNat n) (hn : n ≤ 30) (h3 : ¬ x = 30) : n < 30 := by
  have : ¬ n = 30 := fun z => h3 (by rw [h, z]; decide)
  omega
theorem kx_addPlot {N β : Nat} {a : Nat → Int32} {b : Nat → Int64} (H : y_CS N I L R β a b) {Ns Np Nl Nm : Nat} (Z : y_Z a Ns Np Nl Nm) {I0 : Nat → Nat → Int32} {L0 : Nat → Nat → Int64} (hk : x_Cv X mX3_keep [.ref 3, .ref β] (I, L, R) 233 (.inl none, (I0, L0, R), 233)) (H1 : y_CS N I0 L0 R β a b) {v0 : Int32} {v1 : Int32} {v2 : Int32} {v3 : Int32} {v4 : Int32} {v5 : Int32} (h0 : 0 ≤ v0 ∧ v0 ≤ (if 0 < Ns then 500 else 0)) (h1 : 0 ≤ v1 ∧ v1 ≤ (if 1 < Ns then 500 else 0)) (h2 : 0 ≤ v2 ∧ v2 ≤ (if 2 < Ns then 500 else 0)) (h3 : 0 ≤ v3 ∧ v3 ≤ (if 3 < Ns then 500 else 0)) (h4 : 0 ≤ v4 ∧ v4 ≤ (if 4 < Ns then 500 else 0)) (h5 : 0 ≤ v5 ∧ v5 ≤ (if 5 < Ns then 500 else 0)) (h6 : a 0 = 0) (h7 : ¬ a 9 = 30 ∧ ¬ a 9 = a 1)  : x_Cv X mX8_addPlot [.ref 0, .int v0, .int v1, .int v2, .int v3, .int v4, .int v5] (I, L, R) 233 (.inl (some (.int (a 9 + 1))), ((va_up (va_up I0 (β + 6) (va_up (va_up (va_up (va_up (va_up (va_up (I0 (β + 6)) (Np * 6) v0) (Np * 6 + 1) v1) (Np * 6 + 2) v2) (Np * 6 + 3) v3) (Np * 6 + 4) v4) (Np * 6 + 5) v5)) (β + 5) (va_up (I0 (β + 5)) 0 (a 9 + 1))), L0, R), 233) := by
  obtain ⟨hNs, hn, hNp, hp, hNl, hl, hNm, hmm⟩ := Z
  have hR := h_R H
  have hβ := h_β H
  have hS := h_S H
  show x_Ev X mX8_addPlot 0 [some (.ref 0), some (.int v0), some (.int v1), some (.int v2), some (.int v3), some (.int v4), some (.int v5), none] [] ((I, L, R), 233, 0, 0) _
  refine f_aload_n (M := mX8_addPlot) 1 dX8_addPlot_0 rfl rfl ?_
  refine f_iconst (M := mX8_addPlot) 2 dX8_addPlot_1 ki_0 rfl ?_
  refine f_iload_n (M := mX8_addPlot) 3 dX8_addPlot_2 rfl rfl ?_
  refine e_cV (M := mX8_addPlot) [_] 0 0 dX8_addPlot_3 pa_8079 pb_8079 cc_8079 rfl rfl rfl rfl rfl (x_kk rfl) (x_kk rfl) rfl (k_fits (i := 0) H hNs hn (by decide)) rfl ?_
  refine e_if_eqF (M := mX8_addPlot) 61 dX8_addPlot_6 rfl (x_bn h0) ?_
  refine f_aload_n (M := mX8_addPlot) 10 dX8_addPlot_9 rfl rfl ?_
  refine f_iconst (M := mX8_addPlot) 11 dX8_addPlot_10 ki_1 rfl ?_
  refine f_iload_n (M := mX8_addPlot) 12 dX8_addPlot_11 rfl rfl ?_
  refine e_cV (M := mX8_addPlot) [_] 0 0 dX8_addPlot_12 pa_8079 pb_8079 cc_8079 rfl rfl rfl rfl rfl (x_kk rfl) (x_kk rfl) rfl (k_fits (i := 1) H hNs hn (by decide)) rfl ?_
  refine e_if_eqF (M := mX8_addPlot) 61 dX8_addPlot_15 rfl (x_bn h1) ?_
  refine f_aload_n (M := mX8_addPlot) 19 dX8_addPlot_18 rfl rfl ?_
  refine f_iconst (M := mX8_addPlot) 20 dX8_addPlot_19 ki_2 rfl ?_
  refine f_iload_n (M := mX8_addPlot) 21 dX8_addPlot_20 rfl rfl ?_
  refine e_cV (M := mX8_addPlot) [_] 0 0 dX8_addPlot_21 pa_8079 pb_8079 cc_8079 rfl rfl rfl rfl rfl (x_kk rfl) (x_kk rfl) rfl (k_fits (i := 2) H hNs hn (by decide)) rfl ?_
  refine e_if_eqF (M := mX8_addPlot) 61 dX8_addPlot_24 rfl (x_bn h2) ?_
  refine f_aload_n (M := mX8_addPlot) 28 dX8_addPlot_27 rfl rfl ?_
  refine f_iconst (M := mX8_addPlot) 29 dX8_addPlot_28 ki_3 rfl ?_
  refine f_iload (M := mX8_addPlot) 31 dX8_addPlot_29 rfl rfl ?_
  refine e_cV (M := mX8_addPlot) [_] 0 0 dX8_addPlot_31 pa_8079 pb_8079 cc_8079 rfl rfl rfl rfl rfl (x_kk rfl) (x_kk rfl) rfl (k_fits (i := 3) H hNs hn (by decide)) rfl ?_
  refine e_if_eqF (M := mX8_addPlot) 61 dX8_addPlot_34 rfl (x_bn h3) ?_
  refine f_aload_n (M := mX8_addPlot) 38 dX8_addPlot_37 rfl rfl ?_
  refine f_iconst (M := mX8_addPlot) 39 dX8_addPlot_38 ki_4 rfl ?_
  refine f_iload (M := mX8_addPlot) 41 dX8_addPlot_39 rfl rfl ?_
  refine e_cV (M := mX8_addPlot) [_] 0 0 dX8_addPlot_41 pa_8079 pb_8079 cc_8079 rfl rfl rfl rfl rfl (x_kk rfl) (x_kk rfl) rfl (k_fits (i := 4) H hNs hn (by decide)) rfl ?_
  refine e_if_eqF (M := mX8_addPlot) 61 dX8_addPlot_44 rfl (x_bn h4) ?_
  refine f_aload_n (M := mX8_addPlot) 48 dX8_addPlot_47 rfl rfl ?_
  refine f_iconst (M := mX8_addPlot) 49 dX8_addPlot_48 ki_5 rfl ?_
  refine f_iload (M := mX8_addPlot) 51 dX8_addPlot_49 rfl rfl ?_
  refine e_cV (M := mX8_addPlot) [_] 0 0 dX8_addPlot_51 pa_8079 pb_8079 cc_8079 rfl rfl rfl rfl rfl (x_kk rfl) (x_kk rfl) rfl (k_fits (i := 5) H hNs hn (by decide)) rfl ?_
  refine e_if_eqF (M := mX8_addPlot) 61 dX8_addPlot_54 rfl (x_bn h5) ?_
  refine f_iconst (M := mX8_addPlot) 58 dX8_addPlot_57 ki_1 rfl ?_
  refine f_goto (M := mX8_addPlot) 62 dX8_addPlot_58 rfl ?_
  refine e_cS (M := mX8_addPlot) [] 1 6 dX8_addPlot_62 pa_8053 cc_8053 rfl rfl rfl rfl rfl (x_kk rfl) (x_kk rfl) rfl (c_X8_requireArgument (by decide)) rfl ?_
  refine f_bipush (M := mX8_addPlot) 67 dX8_addPlot_65 kb_30 rfl ?_
  refine f_aload_n (M := mX8_addPlot) 68 dX8_addPlot_67 rfl rfl ?_
  refine e_getR (M := mX8_addPlot) dX8_addPlot_68 fl_8026 (x_kk rfl) (x_kk rfl) rfl hS ?_
  refine e_getR (M := mX8_addPlot) dX8_addPlot_71 fl_8083 (x_kk rfl) (sl_lt hβ 0 rfl) (sl_s hβ 0 rfl rfl) (wf_6_1 hR hβ) ?_
  refine e_getR (M := mX8_addPlot) dX8_addPlot_74 fl_8087 (x_kk rfl) (sl_lt hβ 1 rfl) (sl_s hβ 1 rfl rfl) (wf_7_1 hR hβ) ?_
  refine f_iconst (M := mX8_addPlot) 78 dX8_addPlot_77 ki_0 rfl ?_
  refine e_ild (M := mX8_addPlot) (w := 7) (j := 0) dX8_addPlot_78 (sl_lt hβ 2 rfl) (sl_shp hβ 2 rfl) kn_0 (by omega) (by omega) ?_
  refine e_cS (M := mX8_addPlot) [_] 1 6 dX8_addPlot_79 pa_8093 cc_8093 rfl rfl rfl rfl rfl (x_kk rfl) (x_kk rfl) rfl (c_J9_min_7cf53) rfl ?_
  refine f_istore (M := mX8_addPlot) (ls' := [_, _, _, _, _, _, _, _]) 84 dX8_addPlot_82 rfl rfl rfl ?_
  refine f_aload_n (M := mX8_addPlot) 85 dX8_addPlot_84 rfl rfl ?_
  refine e_getR (M := mX8_addPlot) dX8_addPlot_85 fl_8026 (x_kk rfl) (x_kk rfl) rfl hS ?_
  refine e_getI (M := mX8_addPlot) dX8_addPlot_88 fl_8067 (x_kk rfl) (sl_lt hβ 0 rfl) (sl_s hβ 0 rfl rfl) ?_
  refine e_if_neF (M := mX8_addPlot) 113 dX8_addPlot_91 rfl (fun z => z (by rw [h_ph H]; exact h6)) ?_
  refine f_aload_n (M := mX8_addPlot) 95 dX8_addPlot_94 rfl rfl ?_
  refine e_getR (M := mX8_addPlot) dX8_addPlot_95 fl_8026 (x_kk rfl) (x_kk rfl) rfl hS ?_
  refine e_getR (M := mX8_addPlot) dX8_addPlot_98 fl_8070 (x_kk rfl) (sl_lt hβ 0 rfl) (sl_s hβ 0 rfl rfl) (wf_6_2 hR hβ) ?_
  refine e_getI (M := mX8_addPlot) dX8_addPlot_101 fl_8074 (x_kk rfl) (sl_lt hβ 5 rfl) (sl_s hβ 5 rfl rfl) ?_
  refine f_iload (M := mX8_addPlot) 106 dX8_addPlot_104 rfl rfl ?_
  refine e_icmp_geF (M := mX8_addPlot) 113 dX8_addPlot_106 rfl (i_nle.mpr (by rw [(h_C H).1, (h_T H).2.1 0 (by decide)]; exact (pl_ok (h_IC H) hp hNp).mpr h7)) ?_
  refine f_iconst (M := mX8_addPlot) 110 dX8_addPlot_109 ki_1 rfl ?_
  refine f_goto (M := mX8_addPlot) 114 dX8_addPlot_110 rfl ?_
  refine e_cS (M := mX8_addPlot) [] 2 12 dX8_addPlot_114 pa_8037 cc_8037 rfl rfl rfl rfl rfl (x_kk rfl) (x_kk rfl) rfl (c_X8_requireState (by decide)) rfl ?_
  refine f_aload_n (M := mX8_addPlot) 118 dX8_addPlot_117 rfl rfl ?_
  refine e_getR (M := mX8_addPlot) dX8_addPlot_118 fl_8019 (x_kk rfl) (x_kk rfl) rfl (wf_8_1 hR) ?_
  refine f_aload_n (M := mX8_addPlot) 122 dX8_addPlot_121 rfl rfl ?_
  refine e_getR (M := mX8_addPlot) dX8_addPlot_122 fl_8026 (x_kk rfl) (x_kk rfl) rfl hS ?_
  refine e_cV (M := mX8_addPlot) [] 2 12 dX8_addPlot_125 pa_8060 pb_8060 cc_8060 rfl rfl rfl rfl rfl (x_kk rfl) (x_kk rfl) rfl (hk) rfl ?_
  refine f_aload_n (M := mX8_addPlot) 129 dX8_addPlot_128 rfl rfl ?_
  refine e_getR (M := mX8_addPlot) dX8_addPlot_129 fl_8026 (x_kk rfl) (x_kk rfl) rfl hS ?_
  refine e_getR (M := mX8_addPlot) dX8_addPlot_132 fl_8070 (x_kk rfl) (sl_lt hβ 0 rfl) (sl_s hβ 0 rfl rfl) (wf_6_2 hR hβ) ?_
  refine f_iload_n (M := mX8_addPlot) 136 dX8_addPlot_135 rfl rfl ?_
  refine f_iload_n (M := mX8_addPlot) 137 dX8_addPlot_136 rfl rfl ?_
  refine f_iload_n (M := mX8_addPlot) 138 dX8_addPlot_137 rfl rfl ?_
  refine f_iload (M := mX8_addPlot) 140 dX8_addPlot_138 rfl rfl ?_
  refine f_iload (M := mX8_addPlot) 142 dX8_addPlot_140 rfl rfl ?_
  refine f_iload (M := mX8_addPlot) 144 dX8_addPlot_142 rfl rfl ?_
  refine e_cV (M := mX8_addPlot) [] 2 12 dX8_addPlot_144 pa_8099 pb_8099 cc_8099 rfl rfl rfl rfl rfl (x_kk rfl) (x_kk rfl) (x_rcvOK (sl_lt hβ 5 rfl) (sl_s hβ 5 rfl rfl) rfl) (c_X2_add hR hβ (pl_1 hp hNp h7.1) ((h_C H1).1.trans hp)) rfl ?_
  refine f_aload_n (M := mX8_addPlot) 148 dX8_addPlot_147 rfl rfl ?_
  refine e_getR (M := mX8_addPlot) dX8_addPlot_148 fl_8026 (x_kk rfl) (x_kk rfl) rfl hS ?_
  refine e_getR (M := mX8_addPlot) dX8_addPlot_151 fl_8070 (x_kk rfl) (sl_lt hβ 0 rfl) (sl_s hβ 0 rfl rfl) (wf_6_2 hR hβ) ?_
  refine e_getI (M := mX8_addPlot) dX8_addPlot_154 fl_8074 (x_kk rfl) (sl_lt hβ 5 rfl) (sl_s hβ 5 rfl rfl) ?_
  refine e_ri (M := mX8_addPlot) dX8_addPlot_157 rfl (x_kk rfl) (x_kk rfl) ?_
  exact (by simp only [x_up_self, (h_C H1).1])
theorem mx_addPlot (hR : x_wf R) {a : Nat → Int32} (ha : I 226 = a) {Ns Np Nl Nm : Nat} (Z : y_Z a Ns Np Nl Nm) {I0 : Nat → Nat → Int32} {L0 : Nat → Nat → Int64} (hk : x_Cv X mX9_keeps [.ref 225] (x_tw I 0, L, R) 233 (.inl none, (I0, L0, R), 233)) (ha0 : I0 226 = a) {v0 : Int32} {v1 : Int32} {v2 : Int32} {v3 : Int32} {v4 : Int32} {v5 : Int32} (h0 : 0 ≤ v0 ∧ v0 ≤ (if 0 < Ns then 500 else 0)) (h1 : 0 ≤ v1 ∧ v1 ≤ (if 1 < Ns then 500 else 0)) (h2 : 0 ≤ v2 ∧ v2 ≤ (if 2 < Ns then 500 else 0)) (h3 : 0 ≤ v3 ∧ v3 ≤ (if 3 < Ns then 500 else 0)) (h4 : 0 ≤ v4 ∧ v4 ≤ (if 4 < Ns then 500 else 0)) (h5 : 0 ≤ v5 ∧ v5 ≤ (if 5 < Ns then 500 else 0)) (h6 : a 0 = 0) (h7 : ¬ a 9 = 30 ∧ ¬ a 9 = a 1)  : x_Cv X mX9_addPlot [.ref 225, .int v0, .int v1, .int v2, .int v3, .int v4, .int v5] (I, L, R) 233 (.inl (some (.int (a 9 + 1))), (va_up I0 226 (va_up (va_up (va_up (va_up (va_up (va_up (va_up a (44 + 6 * Np) v0) (44 + 6 * Np + 1) v1) (44 + 6 * Np + 2) v2) (44 + 6 * Np + 3) v3) (44 + 6 * Np + 4) v4) (44 + 6 * Np + 5) v5) 9 (a 9 + 1)), L0, R), 233) := by
  subst ha
  obtain ⟨hNs, hn, hNp, hp, hNl, hl, hNm, hmm⟩ := Z
  have hp3 := pl_1 hp hNp h7.1
  show x_Ev X mX9_addPlot 0 [some (.ref 225), some (.int v0), some (.int v1), some (.int v2), some (.int v3), some (.int v4), some (.int v5), none, none, none] [] ((I, L, R), 233, 0, 0) _
  refine f_aload_n (M := mX9_addPlot) 1 dX9_addPlot_0 rfl rfl ?_
  refine e_getR (M := mX9_addPlot) dX9_addPlot_1 fl_9007 (x_kk rfl) (x_kk rfl) rfl (wf_9_0 hR) ?_
  refine f_bipush (M := mX9_addPlot) 6 dX9_addPlot_4 kb_8 rfl ?_
  refine e_ild (M := mX9_addPlot) (w := 606) (j := 8) dX9_addPlot_6 (x_kk rfl) rfl kn_8 (by omega) (by omega) ?_
  refine f_istore (M := mX9_addPlot) (ls' := [_, _, _, _, _, _, _, _, _, _]) 9 dX9_addPlot_7 rfl rfl rfl ?_
  skip
  refine sg_addPlot_0 hR hNs hn ?_
  refine e_if_eqF (M := mX9_addPlot) 123 dX9_addPlot_23 rfl (x_bn h0) ?_
  skip
  refine sg_addPlot_1 hR hNs hn ?_
  refine e_if_eqF (M := mX9_addPlot) 123 dX9_addPlot_41 rfl (x_bn h1) ?_
  skip
  refine sg_addPlot_2 hR hNs hn ?_
  refine e_if_eqF (M := mX9_addPlot) 123 dX9_addPlot_59 rfl (x_bn h2) ?_
  skip
  refine sg_addPlot_3 hR hNs hn ?_
  refine e_if_eqF (M := mX9_addPlot) 123 dX9_addPlot_78 rfl (x_bn h3) ?_
  skip
  refine sg_addPlot_4 hR hNs hn ?_
  refine e_if_eqF (M := mX9_addPlot) 123 dX9_addPlot_97 rfl (x_bn h4) ?_
  skip
  refine sg_addPlot_5 hR hNs hn ?_
  refine e_if_eqF (M := mX9_addPlot) 123 dX9_addPlot_116 rfl (x_bn h5) ?_
  refine f_iconst (M := mX9_addPlot) 120 dX9_addPlot_119 ki_1 rfl ?_
  refine f_goto (M := mX9_addPlot) 124 dX9_addPlot_120 rfl ?_
  refine f_istore (M := mX9_addPlot) (ls' := [_, _, _, _, _, _, _, _, _, _]) 126 dX9_addPlot_124 rfl rfl rfl ?_
  refine f_aload_n (M := mX9_addPlot) 127 dX9_addPlot_126 rfl rfl ?_
  refine f_iload (M := mX9_addPlot) 129 dX9_addPlot_127 rfl rfl ?_
  refine e_if_neT (M := mX9_addPlot) 136 dX9_addPlot_129 rfl (show ¬ (1 : Int32) = 0 by decide) ?_
  refine f_aload_n (M := mX9_addPlot) 137 dX9_addPlot_136 rfl rfl ?_
  refine e_getR (M := mX9_addPlot) dX9_addPlot_137 fl_9007 (x_kk rfl) (x_kk rfl) rfl (wf_9_0 hR) ?_
  refine f_iconst (M := mX9_addPlot) 141 dX9_addPlot_140 ki_0 rfl ?_
  refine e_ild (M := mX9_addPlot) (w := 606) (j := 0) dX9_addPlot_141 (x_kk rfl) rfl kn_0 (by omega) (by omega) ?_
  refine e_if_neF (M := mX9_addPlot) 173 dX9_addPlot_142 rfl (fun z => z h6) ?_
  refine f_aload_n (M := mX9_addPlot) 146 dX9_addPlot_145 rfl rfl ?_
  refine e_getR (M := mX9_addPlot) dX9_addPlot_146 fl_9007 (x_kk rfl) (x_kk rfl) rfl (wf_9_0 hR) ?_
  refine f_bipush (M := mX9_addPlot) 151 dX9_addPlot_149 kb_9 rfl ?_
  refine e_ild (M := mX9_addPlot) (w := 606) (j := 9) dX9_addPlot_151 (x_kk rfl) rfl kn_9 (by omega) (by omega) ?_
  refine f_bipush (M := mX9_addPlot) 154 dX9_addPlot_152 kb_30 rfl ?_
  refine e_icmp_eqF (M := mX9_addPlot) 173 dX9_addPlot_154 rfl h7.1 ?_
  refine f_aload_n (M := mX9_addPlot) 158 dX9_addPlot_157 rfl rfl ?_
  refine e_getR (M := mX9_addPlot) dX9_addPlot_158 fl_9007 (x_kk rfl) (x_kk rfl) rfl (wf_9_0 hR) ?_
  refine f_bipush (M := mX9_addPlot) 163 dX9_addPlot_161 kb_9 rfl ?_
  refine e_ild (M := mX9_addPlot) (w := 606) (j := 9) dX9_addPlot_163 (x_kk rfl) rfl kn_9 (by omega) (by omega) ?_
  refine f_aload_n (M := mX9_addPlot) 165 dX9_addPlot_164 rfl rfl ?_
  refine e_getR (M := mX9_addPlot) dX9_addPlot_165 fl_9007 (x_kk rfl) (x_kk rfl) rfl (wf_9_0 hR) ?_
  refine f_iconst (M := mX9_addPlot) 169 dX9_addPlot_168 ki_1 rfl ?_
  refine e_ild (M := mX9_addPlot) (w := 606) (j := 1) dX9_addPlot_169 (x_kk rfl) rfl kn_1 (by omega) (by omega) ?_
  refine e_icmp_neT (M := mX9_addPlot) 177 dX9_addPlot_170 rfl h7.2 ?_
  refine f_iconst (M := mX9_addPlot) 178 dX9_addPlot_177 ki_0 rfl ?_
  refine e_putI (M := mX9_addPlot) dX9_addPlot_178 fl_9033 (x_kk rfl) (x_kk rfl) rfl (fun q9 => Bool.noConfusion q9) ?_
  refine f_aload_n (M := mX9_addPlot) 182 dX9_addPlot_181 rfl rfl ?_
  refine e_getI (M := mX9_addPlot) dX9_addPlot_182 fl_9033 (x_kk rfl) (x_kk rfl) rfl ?_
  refine e_if_leT (M := mX9_addPlot) 190 dX9_addPlot_185 rfl (show (0 : Int32) ≤ 0 by decide) ?_
  refine f_aload_n (M := mX9_addPlot) 191 dX9_addPlot_190 rfl rfl ?_
  refine e_cV (M := mX9_addPlot) [] 0 0 dX9_addPlot_191 pa_9128 pb_9128 cc_9128 rfl rfl rfl rfl rfl (x_kk rfl) (x_kk rfl) rfl (hk) rfl ?_
  refine f_bipush (M := mX9_addPlot) 196 dX9_addPlot_194 kb_44 rfl ?_
  refine f_bipush (M := mX9_addPlot) 198 dX9_addPlot_196 kb_6 rfl ?_
  refine f_aload_n (M := mX9_addPlot) 199 dX9_addPlot_198 rfl rfl ?_
  refine e_getR (M := mX9_addPlot) dX9_addPlot_199 fl_9007 (x_kk rfl) (x_kk rfl) rfl (wf_9_0 hR) ?_
  refine f_bipush (M := mX9_addPlot) 204 dX9_addPlot_202 kb_9 rfl ?_
  refine e_ild (M := mX9_addPlot) (w := 606) (j := 9) dX9_addPlot_204 (x_kk rfl) rfl kn_9 (by omega) (by omega) ?_
  refine f_imul (M := mX9_addPlot) 206 dX9_addPlot_205 rfl ?_
  refine f_iadd (M := mX9_addPlot) 207 dX9_addPlot_206 rfl ?_
  refine f_istore (M := mX9_addPlot) (ls' := [_, _, _, _, _, _, _, _, _, _]) 209 dX9_addPlot_207 rfl rfl rfl ?_
  refine f_aload_n (M := mX9_addPlot) 210 dX9_addPlot_209 rfl rfl ?_
  refine e_getR (M := mX9_addPlot) dX9_addPlot_210 fl_9007 (x_kk rfl) (x_kk rfl) rfl (wf_9_0 hR) ?_
  refine f_iload (M := mX9_addPlot) 215 dX9_addPlot_213 rfl rfl ?_
  refine f_iload_n (M := mX9_addPlot) 216 dX9_addPlot_215 rfl rfl ?_
  refine e_ist (M := mX9_addPlot) (w := 606) (j := (44) + ((6) * (Np))) dX9_addPlot_216 (x_kk rfl) rfl (ix_add kn_44 (ix_mul kn_6 (by rw [ha0]; exact hp))) (by omega) (by omega) ?_
  refine f_aload_n (M := mX9_addPlot) 218 dX9_addPlot_217 rfl rfl ?_
  refine e_getR (M := mX9_addPlot) dX9_addPlot_218 fl_9007 (x_kk rfl) (x_kk rfl) rfl (wf_9_0 hR) ?_
  refine f_iload (M := mX9_addPlot) 223 dX9_addPlot_221 rfl rfl ?_
  refine f_iconst (M := mX9_addPlot) 224 dX9_addPlot_223 ki_1 rfl ?_
  refine f_iadd (M := mX9_addPlot) 225 dX9_addPlot_224 rfl ?_
  refine f_iload_n (M := mX9_addPlot) 226 dX9_addPlot_225 rfl rfl ?_
  refine e_ist (M := mX9_addPlot) (w := 606) (j := ((44) + ((6) * (Np))) + (1)) dX9_addPlot_226 (x_kk rfl) rfl (ix_add (ix_add kn_44 (ix_mul kn_6 (by rw [ha0]; exact hp))) kn_1) (by omega) (by omega) ?_
  refine f_aload_n (M := mX9_addPlot) 228 dX9_addPlot_227 rfl rfl ?_
  refine e_getR (M := mX9_addPlot) dX9_addPlot_228 fl_9007 (x_kk rfl) (x_kk rfl) rfl (wf_9_0 hR) ?_
  refine f_iload (M := mX9_addPlot) 233 dX9_addPlot_231 rfl rfl ?_
  refine f_iconst (M := mX9_addPlot) 234 dX9_addPlot_233 ki_2 rfl ?_
  refine f_iadd (M := mX9_addPlot) 235 dX9_addPlot_234 rfl ?_
  refine f_iload_n (M := mX9_addPlot) 236 dX9_addPlot_235 rfl rfl ?_
  refine e_ist (M := mX9_addPlot) (w := 606) (j := ((44) + ((6) * (Np))) + (2)) dX9_addPlot_236 (x_kk rfl) rfl (ix_add (ix_add kn_44 (ix_mul kn_6 (by rw [ha0]; exact hp))) kn_2) (by omega) (by omega) ?_
  refine f_aload_n (M := mX9_addPlot) 238 dX9_addPlot_237 rfl rfl ?_
  refine e_getR (M := mX9_addPlot) dX9_addPlot_238 fl_9007 (x_kk rfl) (x_kk rfl) rfl (wf_9_0 hR) ?_
  refine f_iload (M := mX9_addPlot) 243 dX9_addPlot_241 rfl rfl ?_
  refine f_iconst (M := mX9_addPlot) 244 dX9_addPlot_243 ki_3 rfl ?_
  refine f_iadd (M := mX9_addPlot) 245 dX9_addPlot_244 rfl ?_
  refine f_iload (M := mX9_addPlot) 247 dX9_addPlot_245 rfl rfl ?_
  refine e_ist (M := mX9_addPlot) (w := 606) (j := ((44) + ((6) * (Np))) + (3)) dX9_addPlot_247 (x_kk rfl) rfl (ix_add (ix_add kn_44 (ix_mul kn_6 (by rw [ha0]; exact hp))) kn_3) (by omega) (by omega) ?_
  refine f_aload_n (M := mX9_addPlot) 249 dX9_addPlot_248 rfl rfl ?_
  refine e_getR (M := mX9_addPlot) dX9_addPlot_249 fl_9007 (x_kk rfl) (x_kk rfl) rfl (wf_9_0 hR) ?_
  refine f_iload (M := mX9_addPlot) 254 dX9_addPlot_252 rfl rfl ?_
  refine f_iconst (M := mX9_addPlot) 255 dX9_addPlot_254 ki_4 rfl ?_
  refine f_iadd (M := mX9_addPlot) 256 dX9_addPlot_255 rfl ?_
  refine f_iload (M := mX9_addPlot) 258 dX9_addPlot_256 rfl rfl ?_
  refine e_ist (M := mX9_addPlot) (w := 606) (j := ((44) + ((6) * (Np))) + (4)) dX9_addPlot_258 (x_kk rfl) rfl (ix_add (ix_add kn_44 (ix_mul kn_6 (by rw [ha0]; exact hp))) kn_4) (by omega) (by omega) ?_
  refine f_aload_n (M := mX9_addPlot) 260 dX9_addPlot_259 rfl rfl ?_
  refine e_getR (M := mX9_addPlot) dX9_addPlot_260 fl_9007 (x_kk rfl) (x_kk rfl) rfl (wf_9_0 hR) ?_
  refine f_iload (M := mX9_addPlot) 265 dX9_addPlot_263 rfl rfl ?_
  refine f_iconst (M := mX9_addPlot) 266 dX9_addPlot_265 ki_5 rfl ?_
  refine f_iadd (M := mX9_addPlot) 267 dX9_addPlot_266 rfl ?_
  refine f_iload (M := mX9_addPlot) 269 dX9_addPlot_267 rfl rfl ?_
  refine e_ist (M := mX9_addPlot) (w := 606) (j := ((44) + ((6) * (Np))) + (5)) dX9_addPlot_269 (x_kk rfl) rfl (ix_add (ix_add kn_44 (ix_mul kn_6 (by rw [ha0]; exact hp))) kn_5) (by omega) (by omega) ?_
  refine f_aload_n (M := mX9_addPlot) 271 dX9_addPlot_270 rfl rfl ?_
  refine e_getR (M := mX9_addPlot) dX9_addPlot_271 fl_9007 (x_kk rfl) (x_kk rfl) rfl (wf_9_0 hR) ?_
  refine f_bipush (M := mX9_addPlot) 276 dX9_addPlot_274 kb_9 rfl ?_
  refine f_dup2 (M := mX9_addPlot) 277 dX9_addPlot_276 rfl rfl rfl ?_
  refine e_ild (M := mX9_addPlot) (w := 606) (j := 9) dX9_addPlot_277 (x_kk rfl) rfl kn_9 (by omega) (by omega) ?_
  refine f_iconst (M := mX9_addPlot) 279 dX9_addPlot_278 ki_1 rfl ?_
  refine f_iadd (M := mX9_addPlot) 280 dX9_addPlot_279 rfl ?_
  refine e_ist (M := mX9_addPlot) (w := 606) (j := 9) dX9_addPlot_280 (x_kk rfl) rfl kn_9 (by omega) (by omega) ?_
  refine f_aload_n (M := mX9_addPlot) 282 dX9_addPlot_281 rfl rfl ?_
  refine e_getR (M := mX9_addPlot) dX9_addPlot_282 fl_9007 (x_kk rfl) (x_kk rfl) rfl (wf_9_0 hR) ?_
  refine f_bipush (M := mX9_addPlot) 287 dX9_addPlot_285 kb_9 rfl ?_
  refine e_ild (M := mX9_addPlot) (w := 606) (j := 9) dX9_addPlot_287 (x_kk rfl) rfl kn_9 (by omega) (by omega) ?_
  refine e_ri (M := mX9_addPlot) dX9_addPlot_288 rfl (x_kk rfl) (x_kk rfl) ?_
  exact (by simp only [x_up_self, up_up, ha0, x_up_ne _ _ (show 9 ≠ 44 + 6 * Np by omega), x_up_ne _ _ (show 9 ≠ 44 + 6 * Np + 1 by omega), x_up_ne _ _ (show 9 ≠ 44 + 6 * Np + 2 by omega), x_up_ne _ _ (show 9 ≠ 44 + 6 * Np + 3 by omega), x_up_ne _ _ (show 9 ≠ 44 + 6 * Np + 4 by omega), x_up_ne _ _ (show 9 ≠ 44 + 6 * Np + 5 by omega)])
section
variable {β : Nat} {a f : Nat → Int32} {v0 v1 v2 v3 v4 v5 : Int32}
theorem pq_o {m j : Nat} (h : ¬ (m ≤ j ∧ j < m + 6)) : (va_up (va_up (va_up (va_up (va_up (va_up f (m) v0) (m + 1) v1) (m + 2) v2) (m + 3) v3) (m + 4) v4) (m + 5) v5) j = f j := by
  rw [x_up_ne _ _ (by omega), x_up_ne _ _ (by omega), x_up_ne _ _ (by omega), x_up_ne _ _ (by omega), x_up_ne _ _ (by omega), x_up_ne _ _ (by omega)]
theorem pq_i {m j : Nat} (h : m ≤ j ∧ j < m + 6) (P : Int32 → Prop) (h0 : P v0) (h1 : P v1) (h2 : P v2) (h3 : P v3) (h4 : P v4) (h5 : P v5) : P ((va_up (va_up (va_up (va_up (va_up (va_up f (m) v0) (m + 1) v1) (m + 2) v2) (m + 3) v3) (m + 4) v4) (m + 5) v5) j) := by
  by_cases e5 : j = m + 5
  · rw [e5, x_up_self]; exact h5
  · rw [x_up_ne _ _ e5]
    by_cases e4 : j = m + 4
    · rw [e4, x_up_self]; exact h4
    · rw [x_up_ne _ _ e4]
      by_cases e3 : j = m + 3
      · rw [e3, x_up_self]; exact h3
      · rw [x_up_ne _ _ e3]
        by_cases e2 : j = m + 2
        · rw [e2, x_up_self]; exact h2
        · rw [x_up_ne _ _ e2]
          by_cases e1 : j = m + 1
          · rw [e1, x_up_self]; exact h1
          · rw [x_up_ne _ _ e1, show j = m by omega, x_up_self]; exact h0
theorem pq_e {n j : Nat} (h : f j = a (44 + j)) : (va_up (va_up (va_up (va_up (va_up (va_up f (n * 6) v0) (n * 6 + 1) v1) (n * 6 + 2) v2) (n * 6 + 3) v3) (n * 6 + 4) v4) (n * 6 + 5) v5) j = (va_up (va_up (va_up (va_up (va_up (va_up a (44 + 6 * n) v0) (44 + 6 * n + 1) v1) (44 + 6 * n + 2) v2) (44 + 6 * n + 3) v3) (44 + 6 * n + 4) v4) (44 + 6 * n + 5) v5) (44 + j) := by
  by_cases e5 : j = n * 6 + 5
  · rw [e5, x_up_self, show 44 + (n * 6 + 5) = 44 + 6 * n + 5 by omega, x_up_self]
  · rw [x_up_ne _ _ e5, x_up_ne _ _ (show 44 + j ≠ 44 + 6 * n + 5 by omega)]
    by_cases e4 : j = n * 6 + 4
    · rw [e4, x_up_self, show 44 + (n * 6 + 4) = 44 + 6 * n + 4 by omega, x_up_self]
    · rw [x_up_ne _ _ e4, x_up_ne _ _ (show 44 + j ≠ 44 + 6 * n + 4 by omega)]
      by_cases e3 : j = n * 6 + 3
      · rw [e3, x_up_self, show 44 + (n * 6 + 3) = 44 + 6 * n + 3 by omega, x_up_self]
      · rw [x_up_ne _ _ e3, x_up_ne _ _ (show 44 + j ≠ 44 + 6 * n + 3 by omega)]
        by_cases e2 : j = n * 6 + 2
        · rw [e2, x_up_self, show 44 + (n * 6 + 2) = 44 + 6 * n + 2 by omega, x_up_self]
        · rw [x_up_ne _ _ e2, x_up_ne _ _ (show 44 + j ≠ 44 + 6 * n + 2 by omega)]
          by_cases e1 : j = n * 6 + 1
          · rw [e1, x_up_self, show 44 + (n * 6 + 1) = 44 + 6 * n + 1 by omega, x_up_self]
          · rw [x_up_ne _ _ e1, x_up_ne _ _ (show 44 + j ≠ 44 + 6 * n + 1 by omega)]
            by_cases e0 : j = n * 6
            · rw [e0, x_up_self, show 44 + n * 6 = 44 + 6 * n by omega, x_up_self]
            · rw [x_up_ne _ _ e0, x_up_ne _ _ (show 44 + j ≠ 44 + 6 * n by omega)]; exact h
theorem ap_j {n j : Nat} {x : Int32} (h : ¬ (44 ≤ j ∧ j < 224)) (hn : n < 30) (h2 : ¬ j = 9) : va_up (va_up (va_up (va_up (va_up (va_up (va_up a (44 + 6 * n) v0) (44 + 6 * n + 1) v1) (44 + 6 * n + 2) v2) (44 + 6 * n + 3) v3) (44 + 6 * n + 4) v4) (44 + 6 * n + 5) v5) 9 x j = a j := by rw [x_up_ne _ _ h2, pq_o (by omega)]
theorem RC_ap {n : Nat} (hn : n < 30) {x : Int32} (h : y_RC I β a) : y_RC (va_up (va_up I (β + 6) (va_up (va_up (va_up (va_up (va_up (va_up (I (β + 6)) (n * 6) v0) (n * 6 + 1) v1) (n * 6 + 2) v2) (n * 6 + 3) v3) (n * 6 + 4) v4) (n * 6 + 5) v5)) (β + 5) (va_up (I (β + 5)) 0 x)) β (va_up (va_up (va_up (va_up (va_up (va_up (va_up a (44 + 6 * n) v0) (44 + 6 * n + 1) v1) (44 + 6 * n + 2) v2) (44 + 6 * n + 3) v3) (44 + 6 * n + 4) v4) (44 + 6 * n + 5) v5) 9 x) := by
  obtain ⟨h1, h2⟩ := h
  unfold y_RC
  rw [x_up_self, x_up_ne _ _ (show β + 6 ≠ β + 5 by omega), x_up_self, x_up_self, x_up_self]
  exact ⟨rfl, fun j hj => by rw [x_up_ne _ _ (show 44 + j ≠ 9 by omega)]; exact pq_e (h2 j hj)⟩
theorem IC_ap {n : Nat} (hn : n < 30) (h9 : a 9 = Int32.ofNat n) (h1 : ¬ a 9 = a 1) (g0 : y_in v0 0 500) (g1 : y_in v1 0 500) (g2 : y_in v2 0 500) (g3 : y_in v3 0 500) (g4 : y_in v4 0 500) (g5 : y_in v5 0 500) (h : y_IC a) : y_IC (va_up (va_up (va_up (va_up (va_up (va_up (va_up a (44 + 6 * n) v0) (44 + 6 * n + 1) v1) (44 + 6 * n + 2) v2) (44 + 6 * n + 3) v3) (44 + 6 * n + 4) v4) (44 + 6 * n + 5) v5) 9 (a 9 + 1)) := by
  obtain ⟨⟨m, hm, h9', hle⟩, h2⟩ := h
  have : m = n := by rw [h9, n_eq (by omega) (by omega)] at h9'; omega
  have e9 : (a 9).toInt = (n : Int) := by rw [h9, t_n (by omega)]
  rw [t_eq, e9] at h1
  refine ⟨⟨n + 1, by omega, by rw [x_up_self, h9, n_inc], by rw [x_up_ne _ _ (by decide), pq_o (by omega)]; omega⟩, fun j hj => ?_⟩
  rw [x_up_ne _ _ (by omega)]
  by_cases c : 44 + 6 * n ≤ 44 + j ∧ 44 + j < 44 + 6 * n + 6
  · exact pq_i c (fun z => y_in z 0 500) g0 g1 g2 g3 g4 g5
  · rw [pq_o c]; exact h2 j hj
theorem fit_i {v : Int32} {i n : Nat} (h : 0 ≤ v ∧ v ≤ (if i < n then 500 else 0)) : y_in v 0 500 := by
  have h1 := t_le.mp h.1
  have h2 := t_le.mp h.2
  rw [show (0 : Int32).toInt = 0 from by decide] at h1
  refine ⟨h1, Int.le_trans h2 ?_⟩
  by_cases c : i < n
  · rw [if_pos c]; decide
  · rw [if_neg c]; decide
end
theorem sim_addPlot (T : y_T N I L R) {v0 : Int32} {v1 : Int32} {v2 : Int32} {v3 : Int32} {v4 : Int32} {v5 : Int32} : y_OI N X mL_addPlot [.ref 0, .int v0, .int v1, .int v2, .int v3, .int v4, .int v5, .ref 232] mX9_addPlot [.ref 225, .int v0, .int v1, .int v2, .int v3, .int v4, .int v5] I L R := by
  have T0 := T
  obtain ⟨a, b, kn, ks, bf, bn, ep, ⟨β, δ, γ, ν, hB⟩, hM, hI⟩ := T
  have H : y_CS N I L R β a b := ⟨hM.1, hB.1.2.1, hB.1.2.2.2.2.1, hB.2.2.2.2.2.1, hI.1⟩
  obtain ⟨Ns, Np, Nl, Nm, Z⟩ := Z_of hI.1
  have hR := hM.1
  have ha : I 226 = a := hM.2.1
  have hb : L 229 = b := hM.2.2.1
  subst ha
  subst hb
  obtain ⟨hNs, hn, hNp, hp, hNl, hl, hNm, hmm⟩ := id Z
  by_cases h0 : 0 ≤ v0 ∧ v0 ≤ (if 0 < Ns then 500 else 0)
  · skip
    by_cases h1 : 0 ≤ v1 ∧ v1 ≤ (if 1 < Ns then 500 else 0)
    · skip
      by_cases h2 : 0 ≤ v2 ∧ v2 ≤ (if 2 < Ns then 500 else 0)
      · skip
        by_cases h3 : 0 ≤ v3 ∧ v3 ≤ (if 3 < Ns then 500 else 0)
        · skip
          by_cases h4 : 0 ≤ v4 ∧ v4 ≤ (if 4 < Ns then 500 else 0)
          · skip
            by_cases h5 : 0 ≤ v5 ∧ v5 ≤ (if 5 < Ns then 500 else 0)
            · skip
              by_cases h6 : I 226 0 = 0
              · skip
                by_cases h7 : ¬ I 226 9 = 30 ∧ ¬ I 226 9 = I 226 1
                · skip
                  obtain ⟨I0, L0, hk, S1, fr, sm⟩ := keep_ok (X := X) hB (h60_of (h_IL H))
                  have H1 : y_CS N I0 L0 R β (I 226) (L 229) := ⟨hR, h_β H, h_S H, S1.2.2.2.2.2.1, hI.1⟩
                  have hβ := h_β H
                  have hp3 := pl_1 hp hNp h7.1
                  have k1 := w_addPlot (kx_addPlot H Z hk H1 h0 h1 h2 h3 h4 h5 h6 h7 )
                  have out : ∀ cc, (∀ j, j < 22 → ¬ cc = β + j) → (va_up (va_up I0 (β + 6) (va_up (va_up (va_up (va_up (va_up (va_up (I0 (β + 6)) (Np * 6) v0) (Np * 6 + 1) v1) (Np * 6 + 2) v2) (Np * 6 + 3) v3) (Np * 6 + 4) v4) (Np * 6 + 5) v5)) (β + 5) (va_up (I0 (β + 5)) 0 (I 226 9 + 1))) cc = I0 cc ∧ L0 cc = L0 cc := fun cc ho => ⟨(by rw [x_up_ne _ _ (ho 5 (by decide)), x_up_ne _ _ (ho 6 (by decide))]), rfl⟩
                  have M1 := SM_f (I' := (va_up (va_up I0 (β + 6) (va_up (va_up (va_up (va_up (va_up (va_up (I0 (β + 6)) (Np * 6) v0) (Np * 6 + 1) v1) (Np * 6 + 2) v2) (Np * 6 + 3) v3) (Np * 6 + 4) v4) (Np * 6 + 5) v5)) (β + 5) (va_up (I0 (β + 5)) 0 (I 226 9 + 1)))) (L' := va_up L0 232 (va_up (L0 232) 0 (I 226 9 + 1).toInt64)) hM hR (fun cc z1 z2 => ⟨(out cc (fun j hj => sl_far hβ (Or.inr z1) hj)).1.trans (fr cc z1).1, (x_up_ne _ _ (by omega)).trans ((out cc (fun j hj => sl_far hβ (Or.inr z1) hj)).2.trans (fr cc z1).2)⟩)
                  obtain ⟨I2, L2, hk9, M2, t6, l25, fr9⟩ := keeps_ok (X := X) (SM_tw (t := 0) M1)
                  have m1 := mx_addPlot hR M1.2.1 Z hk9 M2.2.1 h0 h1 h2 h3 h4 h5 h6 h7 
                  refine OI_c (a' := (va_up (va_up (va_up (va_up (va_up (va_up (va_up (I 226) (44 + 6 * Np) v0) (44 + 6 * Np + 1) v1) (44 + 6 * Np + 2) v2) (44 + 6 * Np + 3) v3) (44 + 6 * Np + 4) v4) (44 + 6 * Np + 5) v5) 9 (I 226 9 + 1))) (b' := (L 229)) k1 ⟨β, δ, γ, _, SB_u S1 out ?_⟩ m1 ?_ (SM_a M2) (fr_t fr_tw (fr_t fr9 fr_a)) (In_p (by omega) hI ?_)
                  · exact ⟨(by rw [x_up_ne _ _ (show β ≠ β + 5 by omega), x_up_ne _ _ (show β ≠ β + 6 by omega)]; exact (h_ph H1).trans (show _ = _ from (ap_j (by omega) hp3 (by omega))).symm), RT_c (fun k z1 z2 => by rw [x_up_ne _ _ (show β + k ≠ β + 5 by omega), x_up_ne _ _ (show β + k ≠ β + 6 by omega)]) (fun j hj => ap_j (by omega) hp3 (by omega)) (h_T H1), RC_ap hp3 (h_C H1), RB_c (fun k z1 z2 => by rw [x_up_ne _ _ (show β + k ≠ β + 5 by omega), x_up_ne _ _ (show β + k ≠ β + 6 by omega)]) (by rw [ap_j (by omega) hp3 (by omega)]) (fun j hj => ap_j (by omega) hp3 (by omega)) (h_B H1), RK_c (fun k z1 z2 => by rw [x_up_ne _ _ (show β + k ≠ β + 5 by omega), x_up_ne _ _ (show β + k ≠ β + 6 by omega)]) rfl rfl (fun z => by rw [ap_j (by omega) hp3 (by omega)] at z; exact z) (fun j hj => ap_j (by omega) hp3 (by omega)) (h_K H1), RL_c (fun k z1 z2 => by rw [x_up_ne _ _ (show β + k ≠ β + 5 by omega), x_up_ne _ _ (show β + k ≠ β + 6 by omega)]) (fun j hj => ap_j (by omega) hp3 (by omega)) (h60_of (h_IL H)) (h_L H1)⟩
                  · exact t6
                  · have z8 : ¬ I 226 0 = 8 := by rw [h6]; decide
                    exact ⟨IT_c (by rw [ap_j (by omega) hp3 (by omega)]; exact (h_IT H).1) (fun j hj => ap_j (by omega) hp3 (by omega)) (h_IT H), IC_ap hp3 hp h7.2 (fit_i h0) (fit_i h1) (fit_i h2) (fit_i h3) (fit_i h4) (fit_i h5) (h_IC H), IB_c (by omega) (fun z => by rw [ap_j (by omega) hp3 (by omega)] at z; exact z) (fun j hj => ap_j (by omega) hp3 (by omega)) (h_IB H), IV_c (fun j hj => ap_j (by omega) hp3 (by omega)) (h_IV H), IK_c (fun j hj => ap_j (by omega) hp3 (by omega)) z8 (h_IK H), IL_c (fun j hj => ap_j (by omega) hp3 (by omega)) (h_IL H), (fun j hj => (ap_j (by omega) hp3 (by omega)).trans (hI.1.2.2.2.2.2.2.1 j hj)), hI.1.2.2.2.2.2.2.2⟩
                · exact OI_x T0 (by decide) (w_addPlot_x0 (kf_addPlot_7 H Z h0 h1 h2 h3 h4 h5 h6 h7)) (mf_addPlot_7 hR Z h0 h1 h2 h3 h4 h5 h6 h7)
              · exact OI_x T0 (by decide) (w_addPlot_x0 (kf_addPlot_6 H Z h0 h1 h2 h3 h4 h5 h6)) (mf_addPlot_6 hR Z h0 h1 h2 h3 h4 h5 h6)
            · exact OI_x T0 (by decide) (w_addPlot_x1 (kf_addPlot_5 H Z h0 h1 h2 h3 h4 h5)) (mf_addPlot_5 hR Z h0 h1 h2 h3 h4 h5)
          · exact OI_x T0 (by decide) (w_addPlot_x1 (kf_addPlot_4 H Z h0 h1 h2 h3 h4)) (mf_addPlot_4 hR Z h0 h1 h2 h3 h4)
        · exact OI_x T0 (by decide) (w_addPlot_x1 (kf_addPlot_3 H Z h0 h1 h2 h3)) (mf_addPlot_3 hR Z h0 h1 h2 h3)
      · exact OI_x T0 (by decide) (w_addPlot_x1 (kf_addPlot_2 H Z h0 h1 h2)) (mf_addPlot_2 hR Z h0 h1 h2)
    · exact OI_x T0 (by decide) (w_addPlot_x1 (kf_addPlot_1 H Z h0 h1)) (mf_addPlot_1 hR Z h0 h1)
  · exact OI_x T0 (by decide) (w_addPlot_x1 (kf_addPlot_0 H Z h0)) (mf_addPlot_0 hR Z h0)
end

/-! ===== changes of both, ninth: checks and voids (laid by wip/whole/src/w9.py) ===== -/
section
variable {X : x_X} {I : Nat → Nat → Int32} {L : Nat → Nat → Int64} {R : Nat → Nat → Option Nat} {N : Nat}
theorem c_X4_setCheck (hR : x_wf R) {β : Nat} (hβ : x_sl β) {q : Nat} (hq : q < 60) {t : Int32} : x_Cv X mX4_setCheck [.ref (β + 17), .int (Int32.ofNat q), .int t] (I, L, R) 233 (.inl none, ((va_up (va_up I (β + 21) (va_up (I (β + 21)) q t)) (β + 17) (va_up (va_up (I (β + 17)) 1 (I (β + 17) 1 + I (β + 20) q)) 2 (I (β + 17) 2 + t))), L, R), 233) := by
  show x_Ev X mX4_setCheck 0 [some (.ref (β + 17)), some (.int (Int32.ofNat q)), some (.int t)] [] ((I, L, R), 233, 0, 0) _
  refine f_aload_n (M := mX4_setCheck) 1 dX4_setCheck_0 rfl rfl ?_
  refine e_getR (M := mX4_setCheck) dX4_setCheck_1 fl_4021 (x_kk rfl) (sl_lt hβ 17 rfl) (sl_s hβ 17 rfl rfl) (wf_4_6 hR hβ) ?_
  refine f_iload_n (M := mX4_setCheck) 5 dX4_setCheck_4 rfl rfl ?_
  refine f_iload_n (M := mX4_setCheck) 6 dX4_setCheck_5 rfl rfl ?_
  refine e_ist (M := mX4_setCheck) (w := 60) (j := q) dX4_setCheck_6 (sl_lt hβ 21 rfl) (sl_shp hβ 21 rfl) rfl (by omega) (by omega) ?_
  refine f_aload_n (M := mX4_setCheck) 8 dX4_setCheck_7 rfl rfl ?_
  refine f_dup (M := mX4_setCheck) 9 dX4_setCheck_8 rfl rfl ?_
  refine e_getI (M := mX4_setCheck) dX4_setCheck_9 fl_4028 (x_kk rfl) (sl_lt hβ 17 rfl) (sl_s hβ 17 rfl rfl) ?_
  refine f_aload_n (M := mX4_setCheck) 13 dX4_setCheck_12 rfl rfl ?_
  refine e_getR (M := mX4_setCheck) dX4_setCheck_13 fl_4018 (x_kk rfl) (sl_lt hβ 17 rfl) (sl_s hβ 17 rfl rfl) (wf_4_5 hR hβ) ?_
  refine f_iload_n (M := mX4_setCheck) 17 dX4_setCheck_16 rfl rfl ?_
  refine e_ild (M := mX4_setCheck) (w := 60) (j := q) dX4_setCheck_17 (sl_lt hβ 20 rfl) (sl_shp hβ 20 rfl) rfl (by omega) (by omega) ?_
  refine f_iadd (M := mX4_setCheck) 19 dX4_setCheck_18 rfl ?_
  refine e_putI (M := mX4_setCheck) dX4_setCheck_19 fl_4028 (x_kk rfl) (sl_lt hβ 17 rfl) (sl_s hβ 17 rfl rfl) (fun q9 => Bool.noConfusion q9) ?_
  refine f_aload_n (M := mX4_setCheck) 23 dX4_setCheck_22 rfl rfl ?_
  refine f_dup (M := mX4_setCheck) 24 dX4_setCheck_23 rfl rfl ?_
  refine e_getI (M := mX4_setCheck) dX4_setCheck_24 fl_4031 (x_kk rfl) (sl_lt hβ 17 rfl) (sl_s hβ 17 rfl rfl) ?_
  refine f_iload_n (M := mX4_setCheck) 28 dX4_setCheck_27 rfl rfl ?_
  refine f_iadd (M := mX4_setCheck) 29 dX4_setCheck_28 rfl ?_
  refine e_putI (M := mX4_setCheck) dX4_setCheck_29 fl_4031 (x_kk rfl) (sl_lt hβ 17 rfl) (sl_s hβ 17 rfl rfl) (fun q9 => Bool.noConfusion q9) ?_
  refine e_rv (M := mX4_setCheck) dX4_setCheck_32 rfl (x_kk rfl) (x_kk rfl) ?_
  exact (by simp only [x_up_self, up_up, x_up_ne _ _ (show β + 17 ≠ β + 21 by omega), x_up_ne _ _ (show β + 20 ≠ β + 21 by omega), x_up_ne _ _ (show β + 20 ≠ β + 17 by omega), x_up_ne _ _ (show (2 : Nat) ≠ 1 by decide)])
theorem kx_check {N β : Nat} {a : Nat → Int32} {b : Nat → Int64} (H : y_CS N I L R β a b) {Ns Np Nl Nm : Nat} (Z : y_Z a Ns Np Nl Nm) {I0 : Nat → Nat → Int32} {L0 : Nat → Nat → Int64} (hk : x_Cv X mX3_keep [.ref 3, .ref β] (I, L, R) 233 (.inl none, (I0, L0, R), 233)) (H1 : y_CS N I0 L0 R β a b) {g : Int32} {e : Int32} {q : Nat} (hq : q < Nl) (h1 : 1 ≤ g ∧ g ≤ 10000) (h2 : 0 ≤ e ∧ e ≤ 100) (h3 : a 0 = 3) (h4 : a (366 + 4 * q + 3) = -1)  : x_Cv X mX8_check [.ref 0, .int (Int32.ofNat q), .int g, .int e] (I, L, R) 233 (.inl (some (.int (((g * (100 - e) + 50) / 100) - a (366 + 4 * q + 2)))), ((va_up (va_up I0 (β + 21) (va_up (I0 (β + 21)) q ((g * (100 - e) + 50) / 100))) (β + 17) (va_up (va_up (I0 (β + 17)) 1 (I0 (β + 17) 1 + a (366 + 4 * q + 2))) 2 (I0 (β + 17) 2 + ((g * (100 - e) + 50) / 100)))), L0, R), 233) := by
  obtain ⟨hNs, hn, hNp, hp, hNl, hl, hNm, hmm⟩ := Z
  have hR := h_R H
  have hβ := h_β H
  have hS := h_S H
  show x_Ev X mX8_check 0 [some (.ref 0), some (.int (Int32.ofNat q)), some (.int g), some (.int e), none] [] ((I, L, R), 233, 0, 0) _
  refine f_aload_n (M := mX8_check) 1 dX8_check_0 rfl rfl ?_
  refine f_iload_n (M := mX8_check) 2 dX8_check_1 rfl rfl ?_
  refine e_cV (M := mX8_check) [_] 0 0 dX8_check_2 pa_8262 pb_8262 cc_8262 rfl rfl rfl rfl rfl (x_kk rfl) (x_kk rfl) rfl (k_isLoad H) rfl ?_
  refine e_cS (M := mX8_check) [] 1 6 dX8_check_5 pa_8103 cc_8103 rfl rfl rfl rfl rfl (x_kk rfl) (x_kk rfl) rfl (c_X8_requireExisting (x_bn (in_ok hl (by omega) hq))) rfl ?_
  refine f_iload_n (M := mX8_check) 9 dX8_check_8 rfl rfl ?_
  refine f_iconst (M := mX8_check) 10 dX8_check_9 ki_1 rfl ?_
  refine f_sipush (M := mX8_check) 13 dX8_check_10 ks_10000 rfl ?_
  refine e_cS (M := mX8_check) [_] 1 6 dX8_check_13 pa_8049 cc_8049 rfl rfl rfl rfl rfl (x_kk rfl) (x_kk rfl) rfl (c_X8_isIn (lo := 1) (hi := 10000)) rfl ?_
  refine e_if_eqF (M := mX8_check) 33 dX8_check_16 rfl (x_bn h1) ?_
  refine f_iload_n (M := mX8_check) 20 dX8_check_19 rfl rfl ?_
  refine f_iconst (M := mX8_check) 21 dX8_check_20 ki_0 rfl ?_
  refine f_bipush (M := mX8_check) 23 dX8_check_21 kb_100 rfl ?_
  refine e_cS (M := mX8_check) [_] 1 6 dX8_check_23 pa_8049 cc_8049 rfl rfl rfl rfl rfl (x_kk rfl) (x_kk rfl) rfl (c_X8_isIn (lo := 0) (hi := 100)) rfl ?_
  refine e_if_eqF (M := mX8_check) 33 dX8_check_26 rfl (x_bn h2) ?_
  refine f_iconst (M := mX8_check) 30 dX8_check_29 ki_1 rfl ?_
  refine f_goto (M := mX8_check) 34 dX8_check_30 rfl ?_
  refine e_cS (M := mX8_check) [] 2 12 dX8_check_34 pa_8053 cc_8053 rfl rfl rfl rfl rfl (x_kk rfl) (x_kk rfl) rfl (c_X8_requireArgument (by decide)) rfl ?_
  refine f_aload_n (M := mX8_check) 38 dX8_check_37 rfl rfl ?_
  refine e_getR (M := mX8_check) dX8_check_38 fl_8026 (x_kk rfl) (x_kk rfl) rfl hS ?_
  refine e_getI (M := mX8_check) dX8_check_41 fl_8067 (x_kk rfl) (sl_lt hβ 0 rfl) (sl_s hβ 0 rfl rfl) ?_
  refine f_iconst (M := mX8_check) 45 dX8_check_44 ki_3 rfl ?_
  refine e_icmp_neF (M := mX8_check) 66 dX8_check_45 rfl (fun z => z (by rw [h_ph H]; exact h3)) ?_
  refine f_aload_n (M := mX8_check) 49 dX8_check_48 rfl rfl ?_
  refine e_getR (M := mX8_check) dX8_check_49 fl_8026 (x_kk rfl) (x_kk rfl) rfl hS ?_
  refine e_getR (M := mX8_check) dX8_check_52 fl_8245 (x_kk rfl) (sl_lt hβ 0 rfl) (sl_s hβ 0 rfl rfl) (wf_6_5 hR hβ) ?_
  refine f_iload_n (M := mX8_check) 56 dX8_check_55 rfl rfl ?_
  refine e_cV (M := mX8_check) [_] 2 12 dX8_check_56 pa_8265 pb_8265 cc_8265 rfl rfl rfl rfl rfl (x_kk rfl) (x_kk rfl) (x_rcvOK (sl_lt hβ 17 rfl) (sl_s hβ 17 rfl rfl) rfl) (k_isChecked H hNl hl hq) rfl ?_
  refine e_if_neF (M := mX8_check) 66 dX8_check_59 rfl (x_bnn (fun z => z h4)) ?_
  refine f_iconst (M := mX8_check) 63 dX8_check_62 ki_1 rfl ?_
  refine f_goto (M := mX8_check) 67 dX8_check_63 rfl ?_
  refine e_cS (M := mX8_check) [] 3 18 dX8_check_67 pa_8037 cc_8037 rfl rfl rfl rfl rfl (x_kk rfl) (x_kk rfl) rfl (c_X8_requireState (by decide)) rfl ?_
  refine f_aload_n (M := mX8_check) 71 dX8_check_70 rfl rfl ?_
  refine e_getR (M := mX8_check) dX8_check_71 fl_8019 (x_kk rfl) (x_kk rfl) rfl (wf_8_1 hR) ?_
  refine f_aload_n (M := mX8_check) 75 dX8_check_74 rfl rfl ?_
  refine e_getR (M := mX8_check) dX8_check_75 fl_8026 (x_kk rfl) (x_kk rfl) rfl hS ?_
  refine e_cV (M := mX8_check) [] 3 18 dX8_check_78 pa_8060 pb_8060 cc_8060 rfl rfl rfl rfl rfl (x_kk rfl) (x_kk rfl) rfl (hk) rfl ?_
  refine f_iload_n (M := mX8_check) 82 dX8_check_81 rfl rfl ?_
  refine f_iload_n (M := mX8_check) 83 dX8_check_82 rfl rfl ?_
  refine e_cS (M := mX8_check) [_] 3 18 dX8_check_83 pa_8257 cc_8257 rfl rfl rfl rfl rfl (x_kk rfl) (x_kk rfl) rfl (c_X8_netVolume) rfl ?_
  refine f_istore (M := mX8_check) (ls' := [_, _, _, _, _]) 88 dX8_check_86 rfl rfl rfl ?_
  refine f_aload_n (M := mX8_check) 89 dX8_check_88 rfl rfl ?_
  refine e_getR (M := mX8_check) dX8_check_89 fl_8026 (x_kk rfl) (x_kk rfl) rfl hS ?_
  refine e_getR (M := mX8_check) dX8_check_92 fl_8245 (x_kk rfl) (sl_lt hβ 0 rfl) (sl_s hβ 0 rfl rfl) (wf_6_5 hR hβ) ?_
  refine f_iload_n (M := mX8_check) 96 dX8_check_95 rfl rfl ?_
  refine f_iload (M := mX8_check) 98 dX8_check_96 rfl rfl ?_
  refine e_cV (M := mX8_check) [] 3 18 dX8_check_98 pa_8268 pb_8268 cc_8268 rfl rfl rfl rfl rfl (x_kk rfl) (x_kk rfl) (x_rcvOK (sl_lt hβ 17 rfl) (sl_s hβ 17 rfl rfl) rfl) (c_X4_setCheck hR hβ (by omega)) rfl ?_
  refine f_iload (M := mX8_check) 103 dX8_check_101 rfl rfl ?_
  refine f_aload_n (M := mX8_check) 104 dX8_check_103 rfl rfl ?_
  refine e_getR (M := mX8_check) dX8_check_104 fl_8026 (x_kk rfl) (x_kk rfl) rfl hS ?_
  refine e_getR (M := mX8_check) dX8_check_107 fl_8245 (x_kk rfl) (sl_lt hβ 0 rfl) (sl_s hβ 0 rfl rfl) (wf_6_5 hR hβ) ?_
  refine e_getR (M := mX8_check) dX8_check_110 fl_8271 (x_kk rfl) (sl_lt hβ 17 rfl) (sl_s hβ 17 rfl rfl) (wf_4_5 hR hβ) ?_
  refine f_iload_n (M := mX8_check) 114 dX8_check_113 rfl rfl ?_
  refine e_ild (M := mX8_check) (w := 60) (j := q) dX8_check_114 (sl_lt hβ 20 rfl) (sl_shp hβ 20 rfl) rfl (by omega) (by omega) ?_
  refine f_isub (M := mX8_check) 116 dX8_check_115 rfl ?_
  refine e_ri (M := mX8_check) dX8_check_116 rfl (x_kk rfl) (x_kk rfl) ?_
  exact (by simp only [(RL_k (h_L H1) hNl hl hq).2.2.1, x_up_ne _ _ (show β + 20 ≠ β + 21 by omega), x_up_ne _ _ (show β + 20 ≠ β + 17 by omega)])
theorem mx_check (hR : x_wf R) {a : Nat → Int32} (ha : I 226 = a) {Ns Np Nl Nm : Nat} (Z : y_Z a Ns Np Nl Nm) {I0 : Nat → Nat → Int32} {L0 : Nat → Nat → Int64} (hk : x_Cv X mX9_keeps [.ref 225] (x_tw I 0, L, R) 233 (.inl none, (I0, L0, R), 233)) (ha0 : I0 226 = a) {g : Int32} {e : Int32} {q : Nat} (hq : q < Nl) (h1 : 1 ≤ g ∧ g ≤ 10000) (h2 : 0 ≤ e ∧ e ≤ 100) (h3 : a 0 = 3) (h4 : a (366 + 4 * q + 3) = -1)  : x_Cv X mX9_check [.ref 225, .int (Int32.ofNat q), .int g, .int e] (I, L, R) 233 (.inl (some (.int (((g * (100 - e) + 50) / 100) - a (366 + 4 * q + 2)))), (va_up I0 226 (va_up a (366 + 4 * q + 3) ((g * (100 - e) + 50) / 100)), L0, R), 233) := by
  subst ha
  obtain ⟨hNs, hn, hNp, hp, hNl, hl, hNm, hmm⟩ := Z
  show x_Ev X mX9_check 0 [some (.ref 225), some (.int (Int32.ofNat q)), some (.int g), some (.int e)] [] ((I, L, R), 233, 0, 0) _
  refine f_aload_n (M := mX9_check) 1 dX9_check_0 rfl rfl ?_
  refine f_aload_n (M := mX9_check) 2 dX9_check_1 rfl rfl ?_
  refine f_iload_n (M := mX9_check) 3 dX9_check_2 rfl rfl ?_
  refine e_cV (M := mX9_check) [_, _] 0 0 dX9_check_3 pa_9255 pb_9255 cc_9255 rfl rfl rfl rfl rfl (x_kk rfl) (x_kk rfl) rfl (c_X9_isLoad hR) rfl ?_
  refine e_if_neT (M := mX9_check) 13 dX9_check_6 rfl (x_bn (in_ok hl (by omega) hq)) ?_
  refine f_iload_n (M := mX9_check) 14 dX9_check_13 rfl rfl ?_
  refine f_iload_n (M := mX9_check) 15 dX9_check_14 rfl rfl ?_
  refine e_cS (M := mX9_check) [_, _] 0 0 dX9_check_15 pa_9249 cc_9249 rfl rfl rfl rfl rfl (x_kk rfl) (x_kk rfl) rfl (c_X9_isScaled) rfl ?_
  refine e_if_neT (M := mX9_check) 25 dX9_check_18 rfl (x_bn ⟨h1, h2⟩) ?_
  refine f_aload_n (M := mX9_check) 26 dX9_check_25 rfl rfl ?_
  refine e_getR (M := mX9_check) dX9_check_26 fl_9007 (x_kk rfl) (x_kk rfl) rfl (wf_9_0 hR) ?_
  refine f_iconst (M := mX9_check) 30 dX9_check_29 ki_0 rfl ?_
  refine e_ild (M := mX9_check) (w := 606) (j := 0) dX9_check_30 (x_kk rfl) rfl kn_0 (by omega) (by omega) ?_
  refine f_iconst (M := mX9_check) 32 dX9_check_31 ki_3 rfl ?_
  refine e_icmp_neF (M := mX9_check) 45 dX9_check_32 rfl (fun z => z h3) ?_
  refine f_aload_n (M := mX9_check) 36 dX9_check_35 rfl rfl ?_
  refine f_iload_n (M := mX9_check) 37 dX9_check_36 rfl rfl ?_
  refine f_iconst (M := mX9_check) 38 dX9_check_37 ki_3 rfl ?_
  refine e_cV (M := mX9_check) [_, _] 0 0 dX9_check_38 pa_9258 pb_9258 cc_9258 rfl rfl rfl rfl rfl (x_kk rfl) (x_kk rfl) rfl (c_X9_ofLoad (j := 3) hR (by omega) (by omega)) rfl ?_
  refine f_iconst (M := mX9_check) 42 dX9_check_41 ki_m1 rfl ?_
  refine e_icmp_eqT (M := mX9_check) 49 dX9_check_42 rfl h4 ?_
  refine f_iconst (M := mX9_check) 50 dX9_check_49 ki_0 rfl ?_
  refine e_putI (M := mX9_check) dX9_check_50 fl_9033 (x_kk rfl) (x_kk rfl) rfl (fun q9 => Bool.noConfusion q9) ?_
  refine f_aload_n (M := mX9_check) 54 dX9_check_53 rfl rfl ?_
  refine e_getI (M := mX9_check) dX9_check_54 fl_9033 (x_kk rfl) (x_kk rfl) rfl ?_
  refine e_if_leT (M := mX9_check) 62 dX9_check_57 rfl (show (0 : Int32) ≤ 0 by decide) ?_
  refine f_aload_n (M := mX9_check) 63 dX9_check_62 rfl rfl ?_
  refine e_cV (M := mX9_check) [] 0 0 dX9_check_63 pa_9128 pb_9128 cc_9128 rfl rfl rfl rfl rfl (x_kk rfl) (x_kk rfl) rfl (hk) rfl ?_
  refine f_aload_n (M := mX9_check) 67 dX9_check_66 rfl rfl ?_
  refine e_getR (M := mX9_check) dX9_check_67 fl_9007 (x_kk rfl) (x_kk rfl) rfl (wf_9_0 hR) ?_
  refine f_sipush (M := mX9_check) 73 dX9_check_70 ks_366 rfl ?_
  refine f_iconst (M := mX9_check) 74 dX9_check_73 ki_4 rfl ?_
  refine f_iload_n (M := mX9_check) 75 dX9_check_74 rfl rfl ?_
  refine f_imul (M := mX9_check) 76 dX9_check_75 rfl ?_
  refine f_iadd (M := mX9_check) 77 dX9_check_76 rfl ?_
  refine f_iconst (M := mX9_check) 78 dX9_check_77 ki_3 rfl ?_
  refine f_iadd (M := mX9_check) 79 dX9_check_78 rfl ?_
  refine f_iload_n (M := mX9_check) 80 dX9_check_79 rfl rfl ?_
  refine f_iload_n (M := mX9_check) 81 dX9_check_80 rfl rfl ?_
  refine e_cS (M := mX9_check) [_, _, _] 0 0 dX9_check_81 pa_9252 cc_9252 rfl rfl rfl rfl rfl (x_kk rfl) (x_kk rfl) rfl (c_X9_netOf) rfl ?_
  refine e_ist (M := mX9_check) (w := 606) (j := ((366) + ((4) * (q))) + (3)) dX9_check_84 (x_kk rfl) rfl (ix_add (ix_add kn_366 (ix_mul kn_4 rfl)) kn_3) (by omega) (by omega) ?_
  refine f_aload_n (M := mX9_check) 86 dX9_check_85 rfl rfl ?_
  refine f_iload_n (M := mX9_check) 87 dX9_check_86 rfl rfl ?_
  refine f_iconst (M := mX9_check) 88 dX9_check_87 ki_3 rfl ?_
  refine e_cV (M := mX9_check) [_] 0 0 dX9_check_88 pa_9258 pb_9258 cc_9258 rfl rfl rfl rfl rfl (x_kk rfl) (x_kk rfl) rfl (c_X9_ofLoad (j := 3) hR (by omega) (by omega)) rfl ?_
  refine f_aload_n (M := mX9_check) 92 dX9_check_91 rfl rfl ?_
  refine f_iload_n (M := mX9_check) 93 dX9_check_92 rfl rfl ?_
  refine f_iconst (M := mX9_check) 94 dX9_check_93 ki_2 rfl ?_
  refine e_cV (M := mX9_check) [_, _] 0 0 dX9_check_94 pa_9258 pb_9258 cc_9258 rfl rfl rfl rfl rfl (x_kk rfl) (x_kk rfl) rfl (c_X9_ofLoad (j := 2) hR (by omega) (by omega)) rfl ?_
  refine f_isub (M := mX9_check) 98 dX9_check_97 rfl ?_
  refine e_ri (M := mX9_check) dX9_check_98 rfl (x_kk rfl) (x_kk rfl) ?_
  exact (by simp only [x_up_self, ha0, x_up_ne _ _ (show 366 + 4 * q + 2 ≠ 366 + 4 * q + 3 by omega)])
section
variable {β : Nat} {a a' : Nat → Int32}
theorem s64_u {f f' : Nat → Int64} {q : Nat} : ∀ {n : Nat}, q < n → f q = 0 → (∀ i, i < n → ¬ i = q → f' i = f i) → x_sum64 f' n = x_sum64 f n + f' q
  | 0, h, _, _ => absurd h (Nat.not_lt_zero _)
  | n + 1, h, h0, hf => by
    show x_sum64 f' n + f' n = x_sum64 f n + f n + f' q
    by_cases e : q = n
    · subst e
      rw [h0, Int64.add_zero, s64_c (f := f') (g := f) (fun i hi => hf i (by omega) (by omega))]
    · rw [s64_u (n := n) (by omega) h0 (fun i hi hne => hf i (by omega) hne), hf n (by omega) (fun z => e z.symm)]
      generalize x_sum64 f n = x
      generalize f n = y
      generalize f' q = z
      grind
theorem cs_ck {n q : Nat} (hq : q < n) (h3 : a (366 + 4 * q + 3) = -1) {t : Int32} (ht : ¬ t = -1) : sp_cs (va_up a (366 + 4 * q + 3) t) 2 n = sp_cs a 2 n + (a (366 + 4 * q + 2)).toInt64 ∧ sp_cs (va_up a (366 + 4 * q + 3) t) 3 n = sp_cs a 3 n + t.toInt64 := by
  have k0 : ∀ w, sp_chk a w q = 0 := fun w => if_pos h3
  constructor
  · rw [show (a (366 + 4 * q + 2)).toInt64 = sp_chk (va_up a (366 + 4 * q + 3) t) 2 q from by
      unfold sp_chk
      rw [x_up_self, if_neg ht, x_up_ne _ _ (by omega)]]
    exact s64_u hq (k0 2) (fun i hi hne => by unfold sp_chk; rw [x_up_ne _ _ (by omega), x_up_ne _ _ (by omega)])
  · rw [show t.toInt64 = sp_chk (va_up a (366 + 4 * q + 3) t) 3 q from by
      unfold sp_chk
      rw [x_up_self, if_neg ht]]
    exact s64_u hq (k0 3) (fun i hi hne => by unfold sp_chk; rw [x_up_ne _ _ (by omega)])
theorem RL_ck {n q : Nat} (hn : n ≤ 60) (h14 : a 14 = Int32.ofNat n) (hq : q < n) (h3 : a (366 + 4 * q + 3) = -1) {t : Int32} (ht : y_in t 0 10000) (hI : y_IL a) (h : y_RL I β a) : y_RL (va_up (va_up I (β + 21) (va_up (I (β + 21)) q t)) (β + 17) (va_up (va_up (I (β + 17)) 1 (I (β + 17) 1 + a (366 + 4 * q + 2))) 2 (I (β + 17) 2 + t))) β (va_up a (366 + 4 * q + 3) t) := by
  have c0 : (a 14).toNatClampNeg = n := by rw [h14, n_cl (by omega)]
  have b2 := bd_cs hI hn h14 (w := 2) (Or.inl rfl)
  have b3 := bd_cs hI hn h14 (w := 3) (Or.inr rfl)
  have bn := (IL_k hI hn h14 hq).2.1
  have bn1 := bn.1
  have bn2 := bn.2
  have ht1 := ht.1
  have ht2 := ht.2
  have tn : ¬ t = -1 := fun z => by rw [z, show (-1 : Int32).toInt = -1 from by decide] at ht1; omega
  obtain ⟨h1, h2, s2, s3⟩ := h
  rw [c0] at h2 s2 s3
  have f2 : (I (β + 17) 1).toInt = (sp_cs a 2 n).toInt := by rw [← s2, T_w]
  have f3 : (I (β + 17) 2).toInt = (sp_cs a 3 n).toInt := by rw [← s3, T_w]
  have cc := cs_ck hq h3 tn
  unfold y_RL
  rw [x_up_self, x_up_ne _ _ (show β + 18 ≠ β + 17 by omega), x_up_ne _ _ (show β + 18 ≠ β + 21 by omega), x_up_ne _ _ (show β + 19 ≠ β + 17 by omega), x_up_ne _ _ (show β + 19 ≠ β + 21 by omega), x_up_ne _ _ (show β + 20 ≠ β + 17 by omega), x_up_ne _ _ (show β + 20 ≠ β + 21 by omega), x_up_ne _ _ (show β + 21 ≠ β + 17 by omega), x_up_self, x_up_ne _ _ (show 14 ≠ 366 + 4 * q + 3 by omega), c0, x_up_ne _ _ (show (0 : Nat) ≠ 2 by decide), x_up_ne _ _ (show (0 : Nat) ≠ 1 by decide), x_up_ne _ _ (show (1 : Nat) ≠ 2 by decide), x_up_self, x_up_self, cc.1, cc.2]
  refine ⟨h1, fun k hk => ?_, ?_, ?_⟩
  · rw [x_up_ne _ _ (show 366 + 4 * k + 0 ≠ 366 + 4 * q + 3 by omega), x_up_ne _ _ (show 366 + 4 * k + 1 ≠ 366 + 4 * q + 3 by omega), x_up_ne _ _ (show 366 + 4 * k + 2 ≠ 366 + 4 * q + 3 by omega)]
    obtain ⟨z1, z2, z3, z4⟩ := h2 k hk
    refine ⟨z1, z2, z3, ?_⟩
    by_cases e : k = q
    · rw [e, x_up_self, x_up_self]
    · rw [x_up_ne _ _ e, x_up_ne _ _ (by omega)]; exact z4
  · rw [T_eq, T_w, t_add (by omega) (by omega), T_add (by rw [T_w]; omega) (by rw [T_w]; omega), T_w, f2]
  · rw [T_eq, T_w, t_add (by omega) (by omega), T_add (by rw [T_w]; omega) (by rw [T_w]; omega), T_w, f3]
theorem IL_ck {n q : Nat} (hn : n ≤ 60) (h14 : a 14 = Int32.ofNat n) (hq : q < n) {t : Int32} (ht : y_in t 0 10000) (h : y_IL a) : y_IL (va_up a (366 + 4 * q + 3) t) := by
  refine ⟨n, hn, by rw [x_up_ne _ _ (by omega)]; exact h14, fun k hk => ?_⟩
  have z := IL_k h hn h14 hk
  rw [x_up_ne _ _ (show 366 + 4 * k + 1 ≠ 366 + 4 * q + 3 by omega), x_up_ne _ _ (show 366 + 4 * k + 2 ≠ 366 + 4 * q + 3 by omega)]
  refine ⟨z.1, z.2.1, ?_⟩
  by_cases e : k = q
  · rw [e, x_up_self]; exact ⟨Int.le_trans (by decide) ht.1, ht.2⟩
  · rw [x_up_ne _ _ (by omega)]; exact z.2.2
end
theorem sim_check (T : y_T N I L R) {u : Int32} {g : Int32} {e : Int32} : y_OI N X mL_check [.ref 0, .int u, .int g, .int e, .ref 232] mX9_check [.ref 225, .int u, .int g, .int e] I L R := by
  have T0 := T
  obtain ⟨a, b, kn, ks, bf, bn, ep, ⟨β, δ, γ, ν, hB⟩, hM, hI⟩ := T
  have H : y_CS N I L R β a b := ⟨hM.1, hB.1.2.1, hB.1.2.2.2.2.1, hB.2.2.2.2.2.1, hI.1⟩
  obtain ⟨Ns, Np, Nl, Nm, Z⟩ := Z_of hI.1
  have hR := hM.1
  have ha : I 226 = a := hM.2.1
  have hb : L 229 = b := hM.2.2.1
  subst ha
  subst hb
  obtain ⟨hNs, hn, hNp, hp, hNl, hl, hNm, hmm⟩ := id Z
  by_cases h0 : 0 ≤ u ∧ u ≤ I 226 14 - 1
  · obtain ⟨q, hq, rfl⟩ := in_of hl (by omega) h0
    by_cases h1 : 1 ≤ g ∧ g ≤ 10000
    · skip
      by_cases h2 : 0 ≤ e ∧ e ≤ 100
      · skip
        by_cases h3 : I 226 0 = 3
        · skip
          by_cases h4 : I 226 (366 + 4 * q + 3) = -1
          · skip
            obtain ⟨I0, L0, hk, S1, fr, sm⟩ := keep_ok (X := X) hB (h60_of (h_IL H))
            have H1 : y_CS N I0 L0 R β (I 226) (L 229) := ⟨hR, h_β H, h_S H, S1.2.2.2.2.2.1, hI.1⟩
            have hβ := h_β H
            have k1 := w_check (kx_check H Z hk H1 hq h1 h2 h3 h4 )
            have out : ∀ cc, (∀ j, j < 22 → ¬ cc = β + j) → (va_up (va_up I0 (β + 21) (va_up (I0 (β + 21)) q ((g * (100 - e) + 50) / 100))) (β + 17) (va_up (va_up (I0 (β + 17)) 1 (I0 (β + 17) 1 + I 226 (366 + 4 * q + 2))) 2 (I0 (β + 17) 2 + ((g * (100 - e) + 50) / 100)))) cc = I0 cc ∧ L0 cc = L0 cc := fun cc ho => ⟨(by rw [x_up_ne _ _ (ho 17 (by decide)), x_up_ne _ _ (ho 21 (by decide))]), rfl⟩
            have M1 := SM_f (I' := (va_up (va_up I0 (β + 21) (va_up (I0 (β + 21)) q ((g * (100 - e) + 50) / 100))) (β + 17) (va_up (va_up (I0 (β + 17)) 1 (I0 (β + 17) 1 + I 226 (366 + 4 * q + 2))) 2 (I0 (β + 17) 2 + ((g * (100 - e) + 50) / 100))))) (L' := va_up L0 232 (va_up (L0 232) 0 (((g * (100 - e) + 50) / 100) - I 226 (366 + 4 * q + 2)).toInt64)) hM hR (fun cc z1 z2 => ⟨(out cc (fun j hj => sl_far hβ (Or.inr z1) hj)).1.trans (fr cc z1).1, (x_up_ne _ _ (by omega)).trans ((out cc (fun j hj => sl_far hβ (Or.inr z1) hj)).2.trans (fr cc z1).2)⟩)
            obtain ⟨I2, L2, hk9, M2, t6, l25, fr9⟩ := keeps_ok (X := X) (SM_tw (t := 0) M1)
            have m1 := mx_check hR M1.2.1 Z hk9 M2.2.1 hq h1 h2 h3 h4 
            refine OI_c (a' := (va_up (I 226) (366 + 4 * q + 3) ((g * (100 - e) + 50) / 100))) (b' := (L 229)) k1 ⟨β, δ, γ, _, SB_u S1 out ?_⟩ m1 ?_ (SM_a M2) (fr_t fr_tw (fr_t fr9 fr_a)) (In_p (by omega) hI ?_)
            · exact ⟨(by rw [x_up_ne _ _ (show β ≠ β + 17 by omega), x_up_ne _ _ (show β ≠ β + 21 by omega)]; exact (h_ph H1).trans (show _ = _ from (x_up_ne _ _ (by omega))).symm), RT_c (fun k z1 z2 => by rw [x_up_ne _ _ (show β + k ≠ β + 17 by omega), x_up_ne _ _ (show β + k ≠ β + 21 by omega)]) (fun j hj => x_up_ne _ _ (by omega)) (h_T H1), RC_c (fun k z1 z2 => by rw [x_up_ne _ _ (show β + k ≠ β + 17 by omega), x_up_ne _ _ (show β + k ≠ β + 21 by omega)]) (fun j hj => x_up_ne _ _ (by omega)) (h_C H1), RB_c (fun k z1 z2 => by rw [x_up_ne _ _ (show β + k ≠ β + 17 by omega), x_up_ne _ _ (show β + k ≠ β + 21 by omega)]) (by rw [x_up_ne _ _ (by omega)]) (fun j hj => x_up_ne _ _ (by omega)) (h_B H1), RK_c (fun k z1 z2 => by rw [x_up_ne _ _ (show β + k ≠ β + 17 by omega), x_up_ne _ _ (show β + k ≠ β + 21 by omega)]) rfl rfl (fun z => by rw [x_up_ne _ _ (by omega)] at z; exact z) (fun j hj => x_up_ne _ _ (by omega)) (h_K H1), RL_ck hNl hl hq h4 (net_i h1 h2) (h_IL H) (h_L H1)⟩
            · exact t6
            · have z8 : ¬ I 226 0 = 8 := by rw [h3]; decide
              exact ⟨IT_c (by rw [x_up_ne _ _ (by omega)]; exact (h_IT H).1) (fun j hj => x_up_ne _ _ (by omega)) (h_IT H), IC_c (fun j hj => x_up_ne _ _ (by omega)) (h_IC H), IB_c (by omega) (fun z => by rw [x_up_ne _ _ (by omega)] at z; exact z) (fun j hj => x_up_ne _ _ (by omega)) (h_IB H), IV_c (fun j hj => x_up_ne _ _ (by omega)) (h_IV H), IK_c (fun j hj => x_up_ne _ _ (by omega)) z8 (h_IK H), IL_ck hNl hl hq (net_i h1 h2) (h_IL H), (fun j hj => (x_up_ne _ _ (by omega)).trans (hI.1.2.2.2.2.2.2.1 j hj)), hI.1.2.2.2.2.2.2.2⟩
          · exact OI_x T0 (by decide) (w_check_x0 (kf_check_4 H Z hq h1 h2 h3 h4)) (mf_check_4 hR Z hq h1 h2 h3 h4)
        · exact OI_x T0 (by decide) (w_check_x0 (kf_check_3 H Z hq h1 h2 h3)) (mf_check_3 hR Z hq h1 h2 h3)
      · exact OI_x T0 (by decide) (w_check_x1 (kf_check_2 H Z hq h1 h2)) (mf_check_2 hR Z hq h1 h2)
    · exact OI_x T0 (by decide) (w_check_x1 (kf_check_1 H Z hq h1)) (mf_check_1 hR Z hq h1)
  · exact OI_x T0 (by decide) (w_check_x2 (kf_check_0 H Z h0)) (mf_check_0 hR Z h0)
theorem c_X4_closeGap (hR : x_wf R) {β : Nat} (hβ : x_sl β) {p : Nat} (hr : p < 233) (hs : x_shp p = (1, 60)) {q Nl : Nat} (hq : q < Nl) (hNl : Nl ≤ 60) (hl : I (β + 17) 0 = Int32.ofNat Nl) : x_Cv X mX4_closeGap [.ref (β + 17), .ref p, .int (Int32.ofNat q)] (I, L, R) 233 (.inl none, (va_up I p (va_cpy (I p) (I p) (q + 1) q (Nl - 1 - q)), L, R), 233) := by
  show x_Ev X mX4_closeGap 0 [some (.ref (β + 17)), some (.ref p), some (.int (Int32.ofNat q))] [] ((I, L, R), 233, 0, 0) _
  refine f_aload_n (M := mX4_closeGap) 1 dX4_closeGap_0 rfl rfl ?_
  refine f_iload_n (M := mX4_closeGap) 2 dX4_closeGap_1 rfl rfl ?_
  refine f_iconst (M := mX4_closeGap) 3 dX4_closeGap_2 ki_1 rfl ?_
  refine f_iadd (M := mX4_closeGap) 4 dX4_closeGap_3 rfl ?_
  refine f_aload_n (M := mX4_closeGap) 5 dX4_closeGap_4 rfl rfl ?_
  refine f_iload_n (M := mX4_closeGap) 6 dX4_closeGap_5 rfl rfl ?_
  refine f_aload_n (M := mX4_closeGap) 7 dX4_closeGap_6 rfl rfl ?_
  refine e_getI (M := mX4_closeGap) dX4_closeGap_7 fl_4024 (x_kk rfl) (sl_lt hβ 17 rfl) (sl_s hβ 17 rfl rfl) ?_
  refine f_iconst (M := mX4_closeGap) 11 dX4_closeGap_10 ki_1 rfl ?_
  refine f_isub (M := mX4_closeGap) 12 dX4_closeGap_11 rfl ?_
  refine f_iload_n (M := mX4_closeGap) 13 dX4_closeGap_12 rfl rfl ?_
  refine f_isub (M := mX4_closeGap) 14 dX4_closeGap_13 rfl ?_
  refine e_cpyI (M := mX4_closeGap) (wb := 60) (m := ((Nl) - (1)) - (q)) (s := (q) + (1)) (d := q) dX4_closeGap_14 ct_4042 (x_kk rfl) (x_arr_w hr hs) hr hs (ix_add rfl kn_1) rfl (ix_sub (ix_sub hl kn_1 (by omega)) rfl (by omega)) (by omega) (by omega) (by omega) (x_kk rfl) ?_
  refine e_rv (M := mX4_closeGap) dX4_closeGap_17 rfl (x_kk rfl) (x_kk rfl) ?_
  rfl
theorem c_X4_remove (hR : x_wf R) {β : Nat} (hβ : x_sl β) {q Nl : Nat} (hq : q < Nl) (hNl : Nl ≤ 60) (hl : I (β + 17) 0 = Int32.ofNat Nl) : x_Cv X mX4_remove [.ref (β + 17), .int (Int32.ofNat q)] (I, L, R) 233 (.inl none, ((va_up (va_up (va_up (va_up (va_up I (β + 18) (va_cpy (I (β + 18)) (I (β + 18)) (q + 1) q (Nl - 1 - q))) (β + 19) (va_cpy (I (β + 19)) (I (β + 19)) (q + 1) q (Nl - 1 - q))) (β + 20) (va_cpy (I (β + 20)) (I (β + 20)) (q + 1) q (Nl - 1 - q))) (β + 21) (va_cpy (I (β + 21)) (I (β + 21)) (q + 1) q (Nl - 1 - q))) (β + 17) (va_up (I (β + 17)) 0 (I (β + 17) 0 - 1))), L, R), 233) := by
  show x_Ev X mX4_remove 0 [some (.ref (β + 17)), some (.int (Int32.ofNat q))] [] ((I, L, R), 233, 0, 0) _
  refine f_aload_n (M := mX4_remove) 1 dX4_remove_0 rfl rfl ?_
  refine f_aload_n (M := mX4_remove) 2 dX4_remove_1 rfl rfl ?_
  refine e_getR (M := mX4_remove) dX4_remove_2 fl_4009 (x_kk rfl) (sl_lt hβ 17 rfl) (sl_s hβ 17 rfl rfl) (wf_4_3 hR hβ) ?_
  refine f_iload_n (M := mX4_remove) 6 dX4_remove_5 rfl rfl ?_
  refine e_cV (M := mX4_remove) [] 0 0 dX4_remove_6 pa_4038 pb_4038 cc_4038 rfl rfl rfl rfl rfl (x_kk rfl) (x_kk rfl) (x_rcvOK (sl_lt hβ 17 rfl) (sl_s hβ 17 rfl rfl) rfl) (c_X4_closeGap hR hβ (sl_lt hβ 18 rfl) (sl_shp hβ 18 rfl) hq hNl hl) rfl ?_
  refine f_aload_n (M := mX4_remove) 10 dX4_remove_9 rfl rfl ?_
  refine f_aload_n (M := mX4_remove) 11 dX4_remove_10 rfl rfl ?_
  refine e_getR (M := mX4_remove) dX4_remove_11 fl_4015 (x_kk rfl) (sl_lt hβ 17 rfl) (sl_s hβ 17 rfl rfl) (wf_4_4 hR hβ) ?_
  refine f_iload_n (M := mX4_remove) 15 dX4_remove_14 rfl rfl ?_
  refine e_cV (M := mX4_remove) [] 0 0 dX4_remove_15 pa_4038 pb_4038 cc_4038 rfl rfl rfl rfl rfl (x_kk rfl) (x_kk rfl) (x_rcvOK (sl_lt hβ 17 rfl) (sl_s hβ 17 rfl rfl) rfl) (c_X4_closeGap hR hβ (sl_lt hβ 19 rfl) (sl_shp hβ 19 rfl) hq hNl (by rw [x_up_ne _ _ (show β + 17 ≠ β + 18 by omega)]; exact hl)) rfl ?_
  refine f_aload_n (M := mX4_remove) 19 dX4_remove_18 rfl rfl ?_
  refine f_aload_n (M := mX4_remove) 20 dX4_remove_19 rfl rfl ?_
  refine e_getR (M := mX4_remove) dX4_remove_20 fl_4018 (x_kk rfl) (sl_lt hβ 17 rfl) (sl_s hβ 17 rfl rfl) (wf_4_5 hR hβ) ?_
  refine f_iload_n (M := mX4_remove) 24 dX4_remove_23 rfl rfl ?_
  refine e_cV (M := mX4_remove) [] 0 0 dX4_remove_24 pa_4038 pb_4038 cc_4038 rfl rfl rfl rfl rfl (x_kk rfl) (x_kk rfl) (x_rcvOK (sl_lt hβ 17 rfl) (sl_s hβ 17 rfl rfl) rfl) (c_X4_closeGap hR hβ (sl_lt hβ 20 rfl) (sl_shp hβ 20 rfl) hq hNl (by rw [x_up_ne _ _ (show β + 17 ≠ β + 19 by omega), x_up_ne _ _ (show β + 17 ≠ β + 18 by omega)]; exact hl)) rfl ?_
  refine f_aload_n (M := mX4_remove) 28 dX4_remove_27 rfl rfl ?_
  refine f_aload_n (M := mX4_remove) 29 dX4_remove_28 rfl rfl ?_
  refine e_getR (M := mX4_remove) dX4_remove_29 fl_4021 (x_kk rfl) (sl_lt hβ 17 rfl) (sl_s hβ 17 rfl rfl) (wf_4_6 hR hβ) ?_
  refine f_iload_n (M := mX4_remove) 33 dX4_remove_32 rfl rfl ?_
  refine e_cV (M := mX4_remove) [] 0 0 dX4_remove_33 pa_4038 pb_4038 cc_4038 rfl rfl rfl rfl rfl (x_kk rfl) (x_kk rfl) (x_rcvOK (sl_lt hβ 17 rfl) (sl_s hβ 17 rfl rfl) rfl) (c_X4_closeGap hR hβ (sl_lt hβ 21 rfl) (sl_shp hβ 21 rfl) hq hNl (by rw [x_up_ne _ _ (show β + 17 ≠ β + 20 by omega), x_up_ne _ _ (show β + 17 ≠ β + 19 by omega), x_up_ne _ _ (show β + 17 ≠ β + 18 by omega)]; exact hl)) rfl ?_
  refine f_aload_n (M := mX4_remove) 37 dX4_remove_36 rfl rfl ?_
  refine f_dup (M := mX4_remove) 38 dX4_remove_37 rfl rfl ?_
  refine e_getI (M := mX4_remove) dX4_remove_38 fl_4024 (x_kk rfl) (sl_lt hβ 17 rfl) (sl_s hβ 17 rfl rfl) ?_
  refine f_iconst (M := mX4_remove) 42 dX4_remove_41 ki_1 rfl ?_
  refine f_isub (M := mX4_remove) 43 dX4_remove_42 rfl ?_
  refine e_putI (M := mX4_remove) dX4_remove_43 fl_4024 (x_kk rfl) (sl_lt hβ 17 rfl) (sl_s hβ 17 rfl rfl) (fun q9 => Bool.noConfusion q9) ?_
  refine e_rv (M := mX4_remove) dX4_remove_46 rfl (x_kk rfl) (x_kk rfl) ?_
  exact (by simp only [x_up_ne _ _ (show β + 17 ≠ β + 18 by omega), x_up_ne _ _ (show β + 17 ≠ β + 19 by omega), x_up_ne _ _ (show β + 17 ≠ β + 20 by omega), x_up_ne _ _ (show β + 17 ≠ β + 21 by omega), x_up_ne _ _ (show β + 18 ≠ β + 17 by omega), x_up_ne _ _ (show β + 18 ≠ β + 19 by omega), x_up_ne _ _ (show β + 18 ≠ β + 20 by omega), x_up_ne _ _ (show β + 18 ≠ β + 21 by omega), x_up_ne _ _ (show β + 19 ≠ β + 17 by omega), x_up_ne _ _ (show β + 19 ≠ β + 18 by omega), x_up_ne _ _ (show β + 19 ≠ β + 20 by omega), x_up_ne _ _ (show β + 19 ≠ β + 21 by omega), x_up_ne _ _ (show β + 20 ≠ β + 17 by omega), x_up_ne _ _ (show β + 20 ≠ β + 18 by omega), x_up_ne _ _ (show β + 20 ≠ β + 19 by omega), x_up_ne _ _ (show β + 20 ≠ β + 21 by omega), x_up_ne _ _ (show β + 21 ≠ β + 17 by omega), x_up_ne _ _ (show β + 21 ≠ β + 18 by omega), x_up_ne _ _ (show β + 21 ≠ β + 19 by omega), x_up_ne _ _ (show β + 21 ≠ β + 20 by omega)])
theorem kx_voidLoad {N β : Nat} {a : Nat → Int32} {b : Nat → Int64} (H : y_CS N I L R β a b) {Ns Np Nl Nm : Nat} (Z : y_Z a Ns Np Nl Nm) {I0 : Nat → Nat → Int32} {L0 : Nat → Nat → Int64} (hk : x_Cv X mX3_keep [.ref 3, .ref β] (I, L, R) 233 (.inl none, (I0, L0, R), 233)) (H1 : y_CS N I0 L0 R β a b) {q : Nat} (hq : q < Nl) (h1 : a 0 = 3) (h2 : a (366 + 4 * q + 1) = a 13) (h3 : a (366 + 4 * q + 3) = -1)  : x_Cv X mX8_voidLoad [.ref 0, .int (Int32.ofNat q)] (I, L, R) 233 (.inl (some (.int (Int32.ofNat (Nl - 1)))), ((va_up (va_up (va_up (va_up (va_up I0 (β + 18) (va_cpy (I0 (β + 18)) (I0 (β + 18)) (q + 1) q (Nl - 1 - q))) (β + 19) (va_cpy (I0 (β + 19)) (I0 (β + 19)) (q + 1) q (Nl - 1 - q))) (β + 20) (va_cpy (I0 (β + 20)) (I0 (β + 20)) (q + 1) q (Nl - 1 - q))) (β + 21) (va_cpy (I0 (β + 21)) (I0 (β + 21)) (q + 1) q (Nl - 1 - q))) (β + 17) (va_up (I0 (β + 17)) 0 (Int32.ofNat (Nl - 1)))), L0, R), 233) := by
  obtain ⟨hNs, hn, hNp, hp, hNl, hl, hNm, hmm⟩ := Z
  have hR := h_R H
  have hβ := h_β H
  have hS := h_S H
  show x_Ev X mX8_voidLoad 0 [some (.ref 0), some (.int (Int32.ofNat q))] [] ((I, L, R), 233, 0, 0) _
  refine f_aload_n (M := mX8_voidLoad) 1 dX8_voidLoad_0 rfl rfl ?_
  refine f_iload_n (M := mX8_voidLoad) 2 dX8_voidLoad_1 rfl rfl ?_
  refine e_cV (M := mX8_voidLoad) [_] 0 0 dX8_voidLoad_2 pa_8262 pb_8262 cc_8262 rfl rfl rfl rfl rfl (x_kk rfl) (x_kk rfl) rfl (k_isLoad H) rfl ?_
  refine e_cS (M := mX8_voidLoad) [] 1 6 dX8_voidLoad_5 pa_8103 cc_8103 rfl rfl rfl rfl rfl (x_kk rfl) (x_kk rfl) rfl (c_X8_requireExisting (x_bn (in_ok hl (by omega) hq))) rfl ?_
  refine f_aload_n (M := mX8_voidLoad) 9 dX8_voidLoad_8 rfl rfl ?_
  refine e_getR (M := mX8_voidLoad) dX8_voidLoad_9 fl_8026 (x_kk rfl) (x_kk rfl) rfl hS ?_
  refine e_getI (M := mX8_voidLoad) dX8_voidLoad_12 fl_8067 (x_kk rfl) (sl_lt hβ 0 rfl) (sl_s hβ 0 rfl rfl) ?_
  refine f_iconst (M := mX8_voidLoad) 16 dX8_voidLoad_15 ki_3 rfl ?_
  refine e_icmp_neF (M := mX8_voidLoad) 62 dX8_voidLoad_16 rfl (fun z => z (by rw [h_ph H]; exact h1)) ?_
  refine f_aload_n (M := mX8_voidLoad) 20 dX8_voidLoad_19 rfl rfl ?_
  refine e_getR (M := mX8_voidLoad) dX8_voidLoad_20 fl_8026 (x_kk rfl) (x_kk rfl) rfl hS ?_
  refine e_getR (M := mX8_voidLoad) dX8_voidLoad_23 fl_8245 (x_kk rfl) (sl_lt hβ 0 rfl) (sl_s hβ 0 rfl rfl) (wf_6_5 hR hβ) ?_
  refine e_getR (M := mX8_voidLoad) dX8_voidLoad_26 fl_8274 (x_kk rfl) (sl_lt hβ 17 rfl) (sl_s hβ 17 rfl rfl) (wf_4_4 hR hβ) ?_
  refine f_iload_n (M := mX8_voidLoad) 30 dX8_voidLoad_29 rfl rfl ?_
  refine e_ild (M := mX8_voidLoad) (w := 60) (j := q) dX8_voidLoad_30 (sl_lt hβ 19 rfl) (sl_shp hβ 19 rfl) rfl (by omega) (by omega) ?_
  refine f_aload_n (M := mX8_voidLoad) 32 dX8_voidLoad_31 rfl rfl ?_
  refine e_getR (M := mX8_voidLoad) dX8_voidLoad_32 fl_8026 (x_kk rfl) (x_kk rfl) rfl hS ?_
  refine e_getR (M := mX8_voidLoad) dX8_voidLoad_35 fl_8227 (x_kk rfl) (sl_lt hβ 0 rfl) (sl_s hβ 0 rfl rfl) (wf_6_4 hR hβ) ?_
  refine e_getI (M := mX8_voidLoad) dX8_voidLoad_38 fl_8254 (x_kk rfl) (sl_lt hβ 12 rfl) (sl_s hβ 12 rfl rfl) ?_
  refine e_icmp_neF (M := mX8_voidLoad) 62 dX8_voidLoad_41 rfl (fun z => z (by rw [(RL_k (h_L H) hNl hl hq).2.1, (h_K H).2.2.2.2.2.1]; exact h2)) ?_
  refine f_aload_n (M := mX8_voidLoad) 45 dX8_voidLoad_44 rfl rfl ?_
  refine e_getR (M := mX8_voidLoad) dX8_voidLoad_45 fl_8026 (x_kk rfl) (x_kk rfl) rfl hS ?_
  refine e_getR (M := mX8_voidLoad) dX8_voidLoad_48 fl_8245 (x_kk rfl) (sl_lt hβ 0 rfl) (sl_s hβ 0 rfl rfl) (wf_6_5 hR hβ) ?_
  refine f_iload_n (M := mX8_voidLoad) 52 dX8_voidLoad_51 rfl rfl ?_
  refine e_cV (M := mX8_voidLoad) [_] 1 6 dX8_voidLoad_52 pa_8265 pb_8265 cc_8265 rfl rfl rfl rfl rfl (x_kk rfl) (x_kk rfl) (x_rcvOK (sl_lt hβ 17 rfl) (sl_s hβ 17 rfl rfl) rfl) (k_isChecked H hNl hl hq) rfl ?_
  refine e_if_neF (M := mX8_voidLoad) 62 dX8_voidLoad_55 rfl (x_bnn (fun z => z h3)) ?_
  refine f_iconst (M := mX8_voidLoad) 59 dX8_voidLoad_58 ki_1 rfl ?_
  refine f_goto (M := mX8_voidLoad) 63 dX8_voidLoad_59 rfl ?_
  refine e_cS (M := mX8_voidLoad) [] 2 12 dX8_voidLoad_63 pa_8037 cc_8037 rfl rfl rfl rfl rfl (x_kk rfl) (x_kk rfl) rfl (c_X8_requireState (by decide)) rfl ?_
  refine f_aload_n (M := mX8_voidLoad) 67 dX8_voidLoad_66 rfl rfl ?_
  refine e_getR (M := mX8_voidLoad) dX8_voidLoad_67 fl_8019 (x_kk rfl) (x_kk rfl) rfl (wf_8_1 hR) ?_
  refine f_aload_n (M := mX8_voidLoad) 71 dX8_voidLoad_70 rfl rfl ?_
  refine e_getR (M := mX8_voidLoad) dX8_voidLoad_71 fl_8026 (x_kk rfl) (x_kk rfl) rfl hS ?_
  refine e_cV (M := mX8_voidLoad) [] 2 12 dX8_voidLoad_74 pa_8060 pb_8060 cc_8060 rfl rfl rfl rfl rfl (x_kk rfl) (x_kk rfl) rfl (hk) rfl ?_
  refine f_aload_n (M := mX8_voidLoad) 78 dX8_voidLoad_77 rfl rfl ?_
  refine e_getR (M := mX8_voidLoad) dX8_voidLoad_78 fl_8026 (x_kk rfl) (x_kk rfl) rfl hS ?_
  refine e_getR (M := mX8_voidLoad) dX8_voidLoad_81 fl_8245 (x_kk rfl) (sl_lt hβ 0 rfl) (sl_s hβ 0 rfl rfl) (wf_6_5 hR hβ) ?_
  refine f_iload_n (M := mX8_voidLoad) 85 dX8_voidLoad_84 rfl rfl ?_
  refine e_cV (M := mX8_voidLoad) [] 2 12 dX8_voidLoad_85 pa_8277 pb_8277 cc_8277 rfl rfl rfl rfl rfl (x_kk rfl) (x_kk rfl) (x_rcvOK (sl_lt hβ 17 rfl) (sl_s hβ 17 rfl rfl) rfl) (c_X4_remove hR hβ hq hNl ((h_L H1).1.trans hl)) rfl ?_
  refine f_aload_n (M := mX8_voidLoad) 89 dX8_voidLoad_88 rfl rfl ?_
  refine e_getR (M := mX8_voidLoad) dX8_voidLoad_89 fl_8026 (x_kk rfl) (x_kk rfl) rfl hS ?_
  refine e_getR (M := mX8_voidLoad) dX8_voidLoad_92 fl_8245 (x_kk rfl) (sl_lt hβ 0 rfl) (sl_s hβ 0 rfl rfl) (wf_6_5 hR hβ) ?_
  refine e_getI (M := mX8_voidLoad) dX8_voidLoad_95 fl_8249 (x_kk rfl) (sl_lt hβ 17 rfl) (sl_s hβ 17 rfl rfl) ?_
  refine e_ri (M := mX8_voidLoad) dX8_voidLoad_98 rfl (x_kk rfl) (x_kk rfl) ?_
  exact (by simp only [x_up_self, (h_L H1).1, hl]; rw [ix_sub (j := Nl) (k := 1) rfl kn_1 (by omega)])
def y_sf (f : Nat → Int32) (m d c : Nat) : Nat → Int32 := fun j => if m ≤ j ∧ j < m + c then f (j + d) else f j
theorem sf_s {f : Nat → Int32} {m d c : Nat} : va_up (y_sf f m d c) (m + c) (f (m + c + d)) = y_sf f m d (c + 1) := by
  funext j
  unfold va_up y_sf
  by_cases e : j = m + c
  · rw [if_pos e, if_pos (by omega), e]
  · rw [if_neg e]
    by_cases h : m ≤ j ∧ j < m + c
    · rw [if_pos h, if_pos (by omega)]
    · rw [if_neg h, if_neg (by omega)]
theorem sf_0 {f : Nat → Int32} {m d : Nat} : y_sf f m d 0 = f := by
  funext j
  unfold y_sf
  rw [if_neg (by omega)]
theorem sf_o {f : Nat → Int32} {m d c j : Nat} (h : ¬ (m ≤ j ∧ j < m + c)) : y_sf f m d c j = f j := if_neg h
theorem sf_i {f : Nat → Int32} {m d c j : Nat} (h : m ≤ j ∧ j < m + c) : y_sf f m d c j = f (j + d) := if_pos h
theorem l_X9_voidLoad (hR : x_wf R) {q n : Nat} (hq : q ≤ n) (hn : n < 60) (hl : I 226 14 = Int32.ofNat n) : ∀ d k, k + d = 4 * (n - q) → x_Ev X mX9_voidLoad 85 [some (.ref 225), some (.int (Int32.ofNat q)), some (.int (Int32.ofNat (4 * q + k)))] [] (((va_up I 226 (y_sf (I 226) (366 + 4 * q) 4 k)), L, R), 233, 0, 0) (.inl (some (.int (Int32.ofNat n))), ((va_up I 226 (y_sf (I 226) (366 + 4 * q) 4 (4 * (n - q)))), L, R), 233) := by
  intro d
  induction d with
  | zero =>
    intro k hd
    obtain rfl : 4 * (n - q) = k := hd.symm
    refine f_iload_n (M := mX9_voidLoad) 86 dX9_voidLoad_85 rfl rfl ?_
    refine f_iconst (M := mX9_voidLoad) 87 dX9_voidLoad_86 ki_4 rfl ?_
    refine f_aload_n (M := mX9_voidLoad) 88 dX9_voidLoad_87 rfl rfl ?_
    refine e_getR (M := mX9_voidLoad) dX9_voidLoad_88 fl_9007 (x_kk rfl) (x_kk rfl) rfl (wf_9_0 hR) ?_
    refine f_bipush (M := mX9_voidLoad) 93 dX9_voidLoad_91 kb_14 rfl ?_
    refine e_ild (M := mX9_voidLoad) (w := 606) (j := 14) dX9_voidLoad_93 (x_kk rfl) rfl kn_14 (by omega) (by omega) ?_
    refine f_imul (M := mX9_voidLoad) 95 dX9_voidLoad_94 rfl ?_
    refine e_icmp_geT (M := mX9_voidLoad) 126 dX9_voidLoad_95 rfl (by rw [up_s, sf_o (by omega), hl, show (4 : Int32) * Int32.ofNat n = Int32.ofNat (4 * n) from ix_mul kn_4 rfl, n_le (by omega) (by omega)]; omega) ?_
    refine f_aload_n (M := mX9_voidLoad) 127 dX9_voidLoad_126 rfl rfl ?_
    refine e_getR (M := mX9_voidLoad) dX9_voidLoad_127 fl_9007 (x_kk rfl) (x_kk rfl) rfl (wf_9_0 hR) ?_
    refine f_bipush (M := mX9_voidLoad) 132 dX9_voidLoad_130 kb_14 rfl ?_
    refine e_ild (M := mX9_voidLoad) (w := 606) (j := 14) dX9_voidLoad_132 (x_kk rfl) rfl kn_14 (by omega) (by omega) ?_
    refine e_ri (M := mX9_voidLoad) dX9_voidLoad_133 rfl (x_kk rfl) (x_kk rfl) ?_
    exact (by rw [up_s, sf_o (by omega), hl])
  | succ d ih =>
    intro k hd
    refine f_iload_n (M := mX9_voidLoad) 86 dX9_voidLoad_85 rfl rfl ?_
    refine f_iconst (M := mX9_voidLoad) 87 dX9_voidLoad_86 ki_4 rfl ?_
    refine f_aload_n (M := mX9_voidLoad) 88 dX9_voidLoad_87 rfl rfl ?_
    refine e_getR (M := mX9_voidLoad) dX9_voidLoad_88 fl_9007 (x_kk rfl) (x_kk rfl) rfl (wf_9_0 hR) ?_
    refine f_bipush (M := mX9_voidLoad) 93 dX9_voidLoad_91 kb_14 rfl ?_
    refine e_ild (M := mX9_voidLoad) (w := 606) (j := 14) dX9_voidLoad_93 (x_kk rfl) rfl kn_14 (by omega) (by omega) ?_
    refine f_imul (M := mX9_voidLoad) 95 dX9_voidLoad_94 rfl ?_
    refine e_icmp_geF (M := mX9_voidLoad) 126 dX9_voidLoad_95 rfl (by rw [up_s, sf_o (by omega), hl, show (4 : Int32) * Int32.ofNat n = Int32.ofNat (4 * n) from ix_mul kn_4 rfl, n_le (by omega) (by omega)]; omega) ?_
    refine f_aload_n (M := mX9_voidLoad) 99 dX9_voidLoad_98 rfl rfl ?_
    refine e_getR (M := mX9_voidLoad) dX9_voidLoad_99 fl_9007 (x_kk rfl) (x_kk rfl) rfl (wf_9_0 hR) ?_
    refine f_sipush (M := mX9_voidLoad) 105 dX9_voidLoad_102 ks_366 rfl ?_
    refine f_iload_n (M := mX9_voidLoad) 106 dX9_voidLoad_105 rfl rfl ?_
    refine f_iadd (M := mX9_voidLoad) 107 dX9_voidLoad_106 rfl ?_
    refine f_aload_n (M := mX9_voidLoad) 108 dX9_voidLoad_107 rfl rfl ?_
    refine e_getR (M := mX9_voidLoad) dX9_voidLoad_108 fl_9007 (x_kk rfl) (x_kk rfl) rfl (wf_9_0 hR) ?_
    refine f_sipush (M := mX9_voidLoad) 114 dX9_voidLoad_111 ks_366 rfl ?_
    refine f_iload_n (M := mX9_voidLoad) 115 dX9_voidLoad_114 rfl rfl ?_
    refine f_iadd (M := mX9_voidLoad) 116 dX9_voidLoad_115 rfl ?_
    refine f_iconst (M := mX9_voidLoad) 117 dX9_voidLoad_116 ki_4 rfl ?_
    refine f_iadd (M := mX9_voidLoad) 118 dX9_voidLoad_117 rfl ?_
    refine e_ild (M := mX9_voidLoad) (w := 606) (j := ((366) + (4 * q + k)) + (4)) dX9_voidLoad_118 (x_kk rfl) rfl (ix_add (ix_add kn_366 rfl) kn_4) (by omega) (by omega) ?_
    refine e_ist (M := mX9_voidLoad) (w := 606) (j := (366) + (4 * q + k)) dX9_voidLoad_119 (x_kk rfl) rfl (ix_add kn_366 rfl) (by omega) (by omega) ?_
    refine f_iinc (M := mX9_voidLoad) (ls' := [_, _, _]) 123 dX9_voidLoad_120 ki_1 rfl rfl rfl rfl ?_
    refine f_goto (M := mX9_voidLoad) 85 dX9_voidLoad_123 rfl ?_
    rw [n_inc, up_s, up_up, sf_o (show ¬ (366 + 4 * q ≤ 366 + (4 * q + k) + 4 ∧ 366 + (4 * q + k) + 4 < 366 + 4 * q + k) by omega), show 366 + (4 * q + k) = 366 + 4 * q + k by omega, sf_s]; exact ih (k + 1) (by omega)
theorem mx_voidLoad (hR : x_wf R) {a : Nat → Int32} (ha : I 226 = a) {Ns Np Nl Nm : Nat} (Z : y_Z a Ns Np Nl Nm) {I0 : Nat → Nat → Int32} {L0 : Nat → Nat → Int64} (hk : x_Cv X mX9_keeps [.ref 225] (x_tw I 0, L, R) 233 (.inl none, (I0, L0, R), 233)) (ha0 : I0 226 = a) {q : Nat} (hq : q < Nl) (h1 : a 0 = 3) (h2 : a (366 + 4 * q + 1) = a 13) (h3 : a (366 + 4 * q + 3) = -1)  : x_Cv X mX9_voidLoad [.ref 225, .int (Int32.ofNat q)] (I, L, R) 233 (.inl (some (.int (Int32.ofNat (Nl - 1)))), (va_up I0 226 (y_sf (va_up a 14 (Int32.ofNat (Nl - 1))) (366 + 4 * q) 4 (4 * (Nl - 1 - q))), L0, R), 233) := by
  subst ha
  obtain ⟨hNs, hn, hNp, hp, hNl, hl, hNm, hmm⟩ := Z
  show x_Ev X mX9_voidLoad 0 [some (.ref 225), some (.int (Int32.ofNat q)), none] [] ((I, L, R), 233, 0, 0) _
  refine f_aload_n (M := mX9_voidLoad) 1 dX9_voidLoad_0 rfl rfl ?_
  refine f_aload_n (M := mX9_voidLoad) 2 dX9_voidLoad_1 rfl rfl ?_
  refine f_iload_n (M := mX9_voidLoad) 3 dX9_voidLoad_2 rfl rfl ?_
  refine e_cV (M := mX9_voidLoad) [_, _] 0 0 dX9_voidLoad_3 pa_9255 pb_9255 cc_9255 rfl rfl rfl rfl rfl (x_kk rfl) (x_kk rfl) rfl (c_X9_isLoad hR) rfl ?_
  refine e_if_neT (M := mX9_voidLoad) 13 dX9_voidLoad_6 rfl (x_bn (in_ok hl (by omega) hq)) ?_
  refine f_aload_n (M := mX9_voidLoad) 14 dX9_voidLoad_13 rfl rfl ?_
  refine e_getR (M := mX9_voidLoad) dX9_voidLoad_14 fl_9007 (x_kk rfl) (x_kk rfl) rfl (wf_9_0 hR) ?_
  refine f_iconst (M := mX9_voidLoad) 18 dX9_voidLoad_17 ki_0 rfl ?_
  refine e_ild (M := mX9_voidLoad) (w := 606) (j := 0) dX9_voidLoad_18 (x_kk rfl) rfl kn_0 (by omega) (by omega) ?_
  refine f_iconst (M := mX9_voidLoad) 20 dX9_voidLoad_19 ki_3 rfl ?_
  refine e_icmp_neF (M := mX9_voidLoad) 49 dX9_voidLoad_20 rfl (fun z => z h1) ?_
  refine f_aload_n (M := mX9_voidLoad) 24 dX9_voidLoad_23 rfl rfl ?_
  refine f_iload_n (M := mX9_voidLoad) 25 dX9_voidLoad_24 rfl rfl ?_
  refine f_iconst (M := mX9_voidLoad) 26 dX9_voidLoad_25 ki_1 rfl ?_
  refine e_cV (M := mX9_voidLoad) [_, _] 0 0 dX9_voidLoad_26 pa_9258 pb_9258 cc_9258 rfl rfl rfl rfl rfl (x_kk rfl) (x_kk rfl) rfl (c_X9_ofLoad (j := 1) hR (by omega) (by omega)) rfl ?_
  refine f_aload_n (M := mX9_voidLoad) 30 dX9_voidLoad_29 rfl rfl ?_
  refine e_getR (M := mX9_voidLoad) dX9_voidLoad_30 fl_9007 (x_kk rfl) (x_kk rfl) rfl (wf_9_0 hR) ?_
  refine f_bipush (M := mX9_voidLoad) 35 dX9_voidLoad_33 kb_13 rfl ?_
  refine e_ild (M := mX9_voidLoad) (w := 606) (j := 13) dX9_voidLoad_35 (x_kk rfl) rfl kn_13 (by omega) (by omega) ?_
  refine e_icmp_neF (M := mX9_voidLoad) 49 dX9_voidLoad_36 rfl (fun z => z h2) ?_
  refine f_aload_n (M := mX9_voidLoad) 40 dX9_voidLoad_39 rfl rfl ?_
  refine f_iload_n (M := mX9_voidLoad) 41 dX9_voidLoad_40 rfl rfl ?_
  refine f_iconst (M := mX9_voidLoad) 42 dX9_voidLoad_41 ki_3 rfl ?_
  refine e_cV (M := mX9_voidLoad) [_, _] 0 0 dX9_voidLoad_42 pa_9258 pb_9258 cc_9258 rfl rfl rfl rfl rfl (x_kk rfl) (x_kk rfl) rfl (c_X9_ofLoad (j := 3) hR (by omega) (by omega)) rfl ?_
  refine f_iconst (M := mX9_voidLoad) 46 dX9_voidLoad_45 ki_m1 rfl ?_
  refine e_icmp_eqT (M := mX9_voidLoad) 53 dX9_voidLoad_46 rfl h3 ?_
  refine f_iconst (M := mX9_voidLoad) 54 dX9_voidLoad_53 ki_0 rfl ?_
  refine e_putI (M := mX9_voidLoad) dX9_voidLoad_54 fl_9033 (x_kk rfl) (x_kk rfl) rfl (fun q9 => Bool.noConfusion q9) ?_
  refine f_aload_n (M := mX9_voidLoad) 58 dX9_voidLoad_57 rfl rfl ?_
  refine e_getI (M := mX9_voidLoad) dX9_voidLoad_58 fl_9033 (x_kk rfl) (x_kk rfl) rfl ?_
  refine e_if_leT (M := mX9_voidLoad) 66 dX9_voidLoad_61 rfl (show (0 : Int32) ≤ 0 by decide) ?_
  refine f_aload_n (M := mX9_voidLoad) 67 dX9_voidLoad_66 rfl rfl ?_
  refine e_cV (M := mX9_voidLoad) [] 0 0 dX9_voidLoad_67 pa_9128 pb_9128 cc_9128 rfl rfl rfl rfl rfl (x_kk rfl) (x_kk rfl) rfl (hk) rfl ?_
  refine f_aload_n (M := mX9_voidLoad) 71 dX9_voidLoad_70 rfl rfl ?_
  refine e_getR (M := mX9_voidLoad) dX9_voidLoad_71 fl_9007 (x_kk rfl) (x_kk rfl) rfl (wf_9_0 hR) ?_
  refine f_bipush (M := mX9_voidLoad) 76 dX9_voidLoad_74 kb_14 rfl ?_
  refine f_dup2 (M := mX9_voidLoad) 77 dX9_voidLoad_76 rfl rfl rfl ?_
  refine e_ild (M := mX9_voidLoad) (w := 606) (j := 14) dX9_voidLoad_77 (x_kk rfl) rfl kn_14 (by omega) (by omega) ?_
  refine f_iconst (M := mX9_voidLoad) 79 dX9_voidLoad_78 ki_1 rfl ?_
  refine f_isub (M := mX9_voidLoad) 80 dX9_voidLoad_79 rfl ?_
  refine e_ist (M := mX9_voidLoad) (w := 606) (j := 14) dX9_voidLoad_80 (x_kk rfl) rfl kn_14 (by omega) (by omega) ?_
  refine f_iconst (M := mX9_voidLoad) 82 dX9_voidLoad_81 ki_4 rfl ?_
  refine f_iload_n (M := mX9_voidLoad) 83 dX9_voidLoad_82 rfl rfl ?_
  refine f_imul (M := mX9_voidLoad) 84 dX9_voidLoad_83 rfl ?_
  refine f_istore_n (M := mX9_voidLoad) (ls' := [_, _, _]) 85 dX9_voidLoad_84 rfl rfl rfl ?_
  have l1 := l_X9_voidLoad (X := X) (I := va_up I0 226 (va_up (I 226) 14 (Int32.ofNat (Nl - 1)))) (L := L0) (q := q) (n := Nl - 1) hR (by omega) (by omega) rfl (4 * (Nl - 1 - q)) 0 (by omega); rw [sf_0, up_self] at l1; simp only [x_up_self, up_up] at l1; rw [ha0, hl, ix_sub (j := Nl) (k := 1) rfl kn_1 (by omega), show (4 : Int32) * Int32.ofNat q = Int32.ofNat (4 * q + 0) from ix_mul kn_4 rfl]; exact l1
section
variable {β : Nat} {a : Nat → Int32}
theorem vo_j {q n j : Nat} {x : Int32} (h : ¬ (366 + 4 * q ≤ j ∧ j < 366 + 4 * q + 4 * (n - 1 - q))) (h2 : ¬ j = 14) : y_sf (va_up a 14 x) (366 + 4 * q) 4 (4 * (n - 1 - q)) j = a j := by rw [sf_o h, x_up_ne _ _ h2]
theorem vo_k {q n k i : Nat} {x : Int32} (h : q ≤ k) (hk : k + 1 < n) (hi : i < 4) : y_sf (va_up a 14 x) (366 + 4 * q) 4 (4 * (n - 1 - q)) (366 + 4 * k + i) = a (366 + 4 * (k + 1) + i) := by
  rw [sf_i (by omega), x_up_ne _ _ (by omega), show 366 + 4 * k + i + 4 = 366 + 4 * (k + 1) + i by omega]
theorem s64_d {f f' : Nat → Int64} {q : Nat} : ∀ {n : Nat}, q < n → f q = 0 → (∀ i, i < q → f' i = f i) → (∀ i, q ≤ i → i + 1 < n → f' i = f (i + 1)) → x_sum64 f' (n - 1) = x_sum64 f n
  | 0, h, _, _, _ => absurd h (Nat.not_lt_zero _)
  | n + 1, h, h0, h1, h2 => by
    rw [Nat.add_sub_cancel]
    show x_sum64 f' n = x_sum64 f n + f n
    by_cases e : q = n
    · subst e
      rw [h0, Int64.add_zero]
      exact s64_c (fun i hi => h1 i hi)
    · obtain ⟨m, rfl⟩ : ∃ m, n = m + 1 := ⟨n - 1, by omega⟩
      have ih := s64_d (n := m + 1) (by omega) h0 h1 (fun i h3 h4 => h2 i h3 (by omega))
      rw [Nat.add_sub_cancel] at ih
      show x_sum64 f' m + f' m = _
      rw [ih, h2 m (by omega) (by omega)]
theorem RL_vo {n q : Nat} (hn : n ≤ 60) (h14 : a 14 = Int32.ofNat n) (hq : q < n) (h3 : a (366 + 4 * q + 3) = -1) (h : y_RL I β a) : y_RL (va_up (va_up (va_up (va_up (va_up I (β + 18) (va_cpy (I (β + 18)) (I (β + 18)) (q + 1) q (n - 1 - q))) (β + 19) (va_cpy (I (β + 19)) (I (β + 19)) (q + 1) q (n - 1 - q))) (β + 20) (va_cpy (I (β + 20)) (I (β + 20)) (q + 1) q (n - 1 - q))) (β + 21) (va_cpy (I (β + 21)) (I (β + 21)) (q + 1) q (n - 1 - q))) (β + 17) (va_up (I (β + 17)) 0 (Int32.ofNat (n - 1)))) β (y_sf (va_up a 14 (Int32.ofNat (n - 1))) (366 + 4 * q) 4 (4 * (n - 1 - q))) := by
  have c0 : (a 14).toNatClampNeg = n := by rw [h14, n_cl (by omega)]
  obtain ⟨h1, h2, s2, s3⟩ := h
  rw [c0] at h2 s2 s3
  have e14 : y_sf (va_up a 14 (Int32.ofNat (n - 1))) (366 + 4 * q) 4 (4 * (n - 1 - q)) 14 = Int32.ofNat (n - 1) := by rw [sf_o (by omega), x_up_self]
  have cs : ∀ w, w = 2 ∨ w = 3 → sp_cs (y_sf (va_up a 14 (Int32.ofNat (n - 1))) (366 + 4 * q) 4 (4 * (n - 1 - q))) w (n - 1) = sp_cs a w n := by
    intro w hw
    refine s64_d hq (if_pos h3) (fun i hi => ?_) (fun i h5 h6 => ?_)
    · unfold sp_chk
      rw [vo_j (by omega) (by omega), vo_j (by omega) (by omega)]
    · unfold sp_chk
      rw [vo_k h5 h6 (by omega), vo_k h5 h6 (by omega)]
  have cp : ∀ (f : Nat → Int32) (k : Nat), va_cpy f f (q + 1) q (n - 1 - q) k = if q ≤ k ∧ k < q + (n - 1 - q) then f (k + 1) else f k := by
    intro f k
    unfold va_cpy
    by_cases c : q ≤ k ∧ k < q + (n - 1 - q)
    · rw [if_pos c, if_pos c, show q + 1 + (k - q) = k + 1 by omega]
    · rw [if_neg c, if_neg c]
  unfold y_RL
  rw [x_up_self, x_up_ne _ _ (show β + 18 ≠ β + 17 by omega), x_up_ne _ _ (show β + 18 ≠ β + 21 by omega), x_up_ne _ _ (show β + 18 ≠ β + 20 by omega), x_up_ne _ _ (show β + 18 ≠ β + 19 by omega), x_up_self, x_up_ne _ _ (show β + 19 ≠ β + 17 by omega), x_up_ne _ _ (show β + 19 ≠ β + 21 by omega), x_up_ne _ _ (show β + 19 ≠ β + 20 by omega), x_up_self, x_up_ne _ _ (show β + 20 ≠ β + 17 by omega), x_up_ne _ _ (show β + 20 ≠ β + 21 by omega), x_up_self, x_up_ne _ _ (show β + 21 ≠ β + 17 by omega), x_up_self, e14, n_cl (by omega), x_up_ne _ _ (show (1 : Nat) ≠ 0 by decide), x_up_ne _ _ (show (2 : Nat) ≠ 0 by decide), x_up_self, cs 2 (Or.inl rfl), cs 3 (Or.inr rfl)]
  refine ⟨rfl, fun k hk => ?_, s2, s3⟩
  rw [cp, cp, cp, cp]
  by_cases c : q ≤ k
  · rw [if_pos (by omega), if_pos (by omega), if_pos (by omega), if_pos (by omega), vo_k c (by omega) (by omega), vo_k c (by omega) (by omega), vo_k c (by omega) (by omega), vo_k c (by omega) (by omega)]
    exact h2 (k + 1) (by omega)
  · rw [if_neg (by omega), if_neg (by omega), if_neg (by omega), if_neg (by omega), vo_j (by omega) (by omega), vo_j (by omega) (by omega), vo_j (by omega) (by omega), vo_j (by omega) (by omega)]
    exact h2 k (by omega)
theorem IL_vo {n q : Nat} (hn : n ≤ 60) (h14 : a 14 = Int32.ofNat n) (hq : q < n) (h : y_IL a) : y_IL (y_sf (va_up a 14 (Int32.ofNat (n - 1))) (366 + 4 * q) 4 (4 * (n - 1 - q))) := by
  refine ⟨n - 1, by omega, by rw [sf_o (by omega), x_up_self], fun k hk => ?_⟩
  by_cases c : q ≤ k
  · rw [vo_k c (by omega) (by omega), vo_k c (by omega) (by omega), vo_k c (by omega) (by omega)]
    exact IL_k h hn h14 (by omega)
  · rw [vo_j (by omega) (by omega), vo_j (by omega) (by omega), vo_j (by omega) (by omega)]
    exact IL_k h hn h14 (by omega)
end
theorem sim_voidLoad (T : y_T N I L R) {u : Int32} : y_OI N X mL_voidLoad [.ref 0, .int u, .ref 232] mX9_voidLoad [.ref 225, .int u] I L R := by
  have T0 := T
  obtain ⟨a, b, kn, ks, bf, bn, ep, ⟨β, δ, γ, ν, hB⟩, hM, hI⟩ := T
  have H : y_CS N I L R β a b := ⟨hM.1, hB.1.2.1, hB.1.2.2.2.2.1, hB.2.2.2.2.2.1, hI.1⟩
  obtain ⟨Ns, Np, Nl, Nm, Z⟩ := Z_of hI.1
  have hR := hM.1
  have ha : I 226 = a := hM.2.1
  have hb : L 229 = b := hM.2.2.1
  subst ha
  subst hb
  obtain ⟨hNs, hn, hNp, hp, hNl, hl, hNm, hmm⟩ := id Z
  by_cases h0 : 0 ≤ u ∧ u ≤ I 226 14 - 1
  · obtain ⟨q, hq, rfl⟩ := in_of hl (by omega) h0
    by_cases h1 : I 226 0 = 3
    · skip
      by_cases h2 : I 226 (366 + 4 * q + 1) = I 226 13
      · skip
        by_cases h3 : I 226 (366 + 4 * q + 3) = -1
        · skip
          obtain ⟨I0, L0, hk, S1, fr, sm⟩ := keep_ok (X := X) hB (h60_of (h_IL H))
          have H1 : y_CS N I0 L0 R β (I 226) (L 229) := ⟨hR, h_β H, h_S H, S1.2.2.2.2.2.1, hI.1⟩
          have hβ := h_β H
          have k1 := w_voidLoad (kx_voidLoad H Z hk H1 hq h1 h2 h3 )
          have out : ∀ cc, (∀ j, j < 22 → ¬ cc = β + j) → (va_up (va_up (va_up (va_up (va_up I0 (β + 18) (va_cpy (I0 (β + 18)) (I0 (β + 18)) (q + 1) q (Nl - 1 - q))) (β + 19) (va_cpy (I0 (β + 19)) (I0 (β + 19)) (q + 1) q (Nl - 1 - q))) (β + 20) (va_cpy (I0 (β + 20)) (I0 (β + 20)) (q + 1) q (Nl - 1 - q))) (β + 21) (va_cpy (I0 (β + 21)) (I0 (β + 21)) (q + 1) q (Nl - 1 - q))) (β + 17) (va_up (I0 (β + 17)) 0 (Int32.ofNat (Nl - 1)))) cc = I0 cc ∧ L0 cc = L0 cc := fun cc ho => ⟨(by rw [x_up_ne _ _ (ho 17 (by decide)), x_up_ne _ _ (ho 21 (by decide)), x_up_ne _ _ (ho 20 (by decide)), x_up_ne _ _ (ho 19 (by decide)), x_up_ne _ _ (ho 18 (by decide))]), rfl⟩
          have M1 := SM_f (I' := (va_up (va_up (va_up (va_up (va_up I0 (β + 18) (va_cpy (I0 (β + 18)) (I0 (β + 18)) (q + 1) q (Nl - 1 - q))) (β + 19) (va_cpy (I0 (β + 19)) (I0 (β + 19)) (q + 1) q (Nl - 1 - q))) (β + 20) (va_cpy (I0 (β + 20)) (I0 (β + 20)) (q + 1) q (Nl - 1 - q))) (β + 21) (va_cpy (I0 (β + 21)) (I0 (β + 21)) (q + 1) q (Nl - 1 - q))) (β + 17) (va_up (I0 (β + 17)) 0 (Int32.ofNat (Nl - 1))))) (L' := va_up L0 232 (va_up (L0 232) 0 (Int32.ofNat (Nl - 1)).toInt64)) hM hR (fun cc z1 z2 => ⟨(out cc (fun j hj => sl_far hβ (Or.inr z1) hj)).1.trans (fr cc z1).1, (x_up_ne _ _ (by omega)).trans ((out cc (fun j hj => sl_far hβ (Or.inr z1) hj)).2.trans (fr cc z1).2)⟩)
          obtain ⟨I2, L2, hk9, M2, t6, l25, fr9⟩ := keeps_ok (X := X) (SM_tw (t := 0) M1)
          have m1 := mx_voidLoad hR M1.2.1 Z hk9 M2.2.1 hq h1 h2 h3 
          refine OI_c (a' := (y_sf (va_up (I 226) 14 (Int32.ofNat (Nl - 1))) (366 + 4 * q) 4 (4 * (Nl - 1 - q)))) (b' := (L 229)) k1 ⟨β, δ, γ, _, SB_u S1 out ?_⟩ m1 ?_ (SM_a M2) (fr_t fr_tw (fr_t fr9 fr_a)) (In_p (by omega) hI ?_)
          · exact ⟨(by rw [x_up_ne _ _ (show β ≠ β + 17 by omega), x_up_ne _ _ (show β ≠ β + 21 by omega), x_up_ne _ _ (show β ≠ β + 20 by omega), x_up_ne _ _ (show β ≠ β + 19 by omega), x_up_ne _ _ (show β ≠ β + 18 by omega)]; exact (h_ph H1).trans (show _ = _ from (vo_j (by omega) (by omega))).symm), RT_c (fun k z1 z2 => by rw [x_up_ne _ _ (show β + k ≠ β + 17 by omega), x_up_ne _ _ (show β + k ≠ β + 21 by omega), x_up_ne _ _ (show β + k ≠ β + 20 by omega), x_up_ne _ _ (show β + k ≠ β + 19 by omega), x_up_ne _ _ (show β + k ≠ β + 18 by omega)]) (fun j hj => vo_j (by omega) (by omega)) (h_T H1), RC_c (fun k z1 z2 => by rw [x_up_ne _ _ (show β + k ≠ β + 17 by omega), x_up_ne _ _ (show β + k ≠ β + 21 by omega), x_up_ne _ _ (show β + k ≠ β + 20 by omega), x_up_ne _ _ (show β + k ≠ β + 19 by omega), x_up_ne _ _ (show β + k ≠ β + 18 by omega)]) (fun j hj => vo_j (by omega) (by omega)) (h_C H1), RB_c (fun k z1 z2 => by rw [x_up_ne _ _ (show β + k ≠ β + 17 by omega), x_up_ne _ _ (show β + k ≠ β + 21 by omega), x_up_ne _ _ (show β + k ≠ β + 20 by omega), x_up_ne _ _ (show β + k ≠ β + 19 by omega), x_up_ne _ _ (show β + k ≠ β + 18 by omega)]) (by rw [vo_j (by omega) (by omega)]) (fun j hj => vo_j (by omega) (by omega)) (h_B H1), RK_c (fun k z1 z2 => by rw [x_up_ne _ _ (show β + k ≠ β + 17 by omega), x_up_ne _ _ (show β + k ≠ β + 21 by omega), x_up_ne _ _ (show β + k ≠ β + 20 by omega), x_up_ne _ _ (show β + k ≠ β + 19 by omega), x_up_ne _ _ (show β + k ≠ β + 18 by omega)]) rfl rfl (fun z => by rw [vo_j (by omega) (by omega)] at z; exact z) (fun j hj => vo_j (by omega) (by omega)) (h_K H1), RL_vo hNl hl hq h3 (h_L H1)⟩
          · exact t6
          · have z8 : ¬ I 226 0 = 8 := by rw [h1]; decide
            exact ⟨IT_c (by rw [vo_j (by omega) (by omega)]; exact (h_IT H).1) (fun j hj => vo_j (by omega) (by omega)) (h_IT H), IC_c (fun j hj => vo_j (by omega) (by omega)) (h_IC H), IB_c (by omega) (fun z => by rw [vo_j (by omega) (by omega)] at z; exact z) (fun j hj => vo_j (by omega) (by omega)) (h_IB H), IV_c (fun j hj => vo_j (by omega) (by omega)) (h_IV H), IK_c (fun j hj => vo_j (by omega) (by omega)) z8 (h_IK H), IL_vo hNl hl hq (h_IL H), (fun j hj => (vo_j (by omega) (by omega)).trans (hI.1.2.2.2.2.2.2.1 j hj)), hI.1.2.2.2.2.2.2.2⟩
        · exact OI_x T0 (by decide) (w_voidLoad_x0 (kf_voidLoad_3 H Z hq h1 h2 h3)) (mf_voidLoad_3 hR Z hq h1 h2 h3)
      · exact OI_x T0 (by decide) (w_voidLoad_x0 (kf_voidLoad_2 H Z hq h1 h2)) (mf_voidLoad_2 hR Z hq h1 h2)
    · exact OI_x T0 (by decide) (w_voidLoad_x0 (kf_voidLoad_1 H Z hq h1)) (mf_voidLoad_1 hR Z hq h1)
  · exact OI_x T0 (by decide) (w_voidLoad_x2 (kf_voidLoad_0 H Z h0)) (mf_voidLoad_0 hR Z h0)
end

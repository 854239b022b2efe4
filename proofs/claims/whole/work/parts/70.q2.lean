/-! ===== queries of both, second (laid by wip/whole/src/q2.py) ===== -/
section
variable {X : x_X} {I : Nat → Nat → Int32} {L : Nat → Nat → Int64} {R : Nat → Nat → Option Nat} {N : Nat}
theorem ko_estimate {N β : Nat} {a : Nat → Int32} {b : Nat → Int64} (H : y_CS N I L R β a b) {Ns Np Nl Nm : Nat} (Z : y_Z a Ns Np Nl Nm) {v : Int32} {d : Int32} (h0 : v = -1 ∨ (0 ≤ v ∧ v ≤ a 8 - 1)) (h1 : ¬ a 9 = 0)  : x_Cv X mX8_estimate [.ref 0, .int v, .int d] (I, L, R) 233 (.inl (some (.long ((if d = 0 then (a 1).toInt64 * sp_sum (a) v Np else (a 9).toInt64) / x_gcd 100 ((a 1).toInt64 * sp_sum (a) v Np) ((a 9).toInt64)))), (I, L, R), 233) := by
  obtain ⟨hNs, hn, hNp, hp, hNl, hl, hNm, hmm⟩ := Z
  have hR := h_R H
  have hβ := h_β H
  have hS := h_S H
  have hσ := sp_of hNs hn h0
  show x_Ev X mX8_estimate 0 [some (.ref 0), some (.int v), some (.int d), none, none] [] ((I, L, R), 233, 0, 0) _
  refine f_aload_n (M := mX8_estimate) 1 dX8_estimate_0 rfl rfl ?_
  refine f_iload_n (M := mX8_estimate) 2 dX8_estimate_1 rfl rfl ?_
  refine e_cV (M := mX8_estimate) [_] 0 0 dX8_estimate_2 pa_8109 pb_8109 cc_8109 rfl rfl rfl rfl rfl (x_kk rfl) (x_kk rfl) rfl (k_isAny H) rfl ?_
  refine e_cS (M := mX8_estimate) [] 1 6 dX8_estimate_5 pa_8103 cc_8103 rfl rfl rfl rfl rfl (x_kk rfl) (x_kk rfl) rfl (c_X8_requireExisting (x_bn h0)) rfl ?_
  refine f_aload_n (M := mX8_estimate) 9 dX8_estimate_8 rfl rfl ?_
  refine e_getR (M := mX8_estimate) dX8_estimate_9 fl_8026 (x_kk rfl) (x_kk rfl) rfl hS ?_
  refine e_getR (M := mX8_estimate) dX8_estimate_12 fl_8070 (x_kk rfl) (sl_lt hβ 0 rfl) (sl_s hβ 0 rfl rfl) (wf_6_2 hR hβ) ?_
  refine e_getI (M := mX8_estimate) dX8_estimate_15 fl_8074 (x_kk rfl) (sl_lt hβ 5 rfl) (sl_s hβ 5 rfl rfl) ?_
  refine f_iconst (M := mX8_estimate) 19 dX8_estimate_18 ki_1 rfl ?_
  refine e_icmp_ltF (M := mX8_estimate) 26 dX8_estimate_19 rfl (i_nlt.mpr (by rw [(h_C H).1]; exact (np1 hNp hp).mpr h1)) ?_
  refine f_iconst (M := mX8_estimate) 23 dX8_estimate_22 ki_1 rfl ?_
  refine f_goto (M := mX8_estimate) 27 dX8_estimate_23 rfl ?_
  refine e_cS (M := mX8_estimate) [] 2 12 dX8_estimate_27 pa_8037 cc_8037 rfl rfl rfl rfl rfl (x_kk rfl) (x_kk rfl) rfl (c_X8_requireState (by decide)) rfl ?_
  refine f_aload_n (M := mX8_estimate) 31 dX8_estimate_30 rfl rfl ?_
  refine e_getR (M := mX8_estimate) dX8_estimate_31 fl_8026 (x_kk rfl) (x_kk rfl) rfl hS ?_
  refine e_getR (M := mX8_estimate) dX8_estimate_34 fl_8083 (x_kk rfl) (sl_lt hβ 0 rfl) (sl_s hβ 0 rfl rfl) (wf_6_1 hR hβ) ?_
  refine e_getR (M := mX8_estimate) dX8_estimate_37 fl_8087 (x_kk rfl) (sl_lt hβ 1 rfl) (sl_s hβ 1 rfl rfl) (wf_7_1 hR hβ) ?_
  refine f_iconst (M := mX8_estimate) 41 dX8_estimate_40 ki_0 rfl ?_
  refine e_ild (M := mX8_estimate) (w := 7) (j := 0) dX8_estimate_41 (sl_lt hβ 2 rfl) (sl_shp hβ 2 rfl) kn_0 (by omega) (by omega) ?_
  refine f_i2l (M := mX8_estimate) 43 dX8_estimate_42 rfl ?_
  refine f_aload_n (M := mX8_estimate) 44 dX8_estimate_43 rfl rfl ?_
  refine e_getR (M := mX8_estimate) dX8_estimate_44 fl_8026 (x_kk rfl) (x_kk rfl) rfl hS ?_
  refine e_getR (M := mX8_estimate) dX8_estimate_47 fl_8070 (x_kk rfl) (sl_lt hβ 0 rfl) (sl_s hβ 0 rfl rfl) (wf_6_2 hR hβ) ?_
  refine f_iload_n (M := mX8_estimate) 51 dX8_estimate_50 rfl rfl ?_
  refine e_cV (M := mX8_estimate) [_, _] 2 12 dX8_estimate_51 pa_8113 pb_8113 cc_8113 rfl rfl rfl rfl rfl (x_kk rfl) (x_kk rfl) (x_rcvOK (sl_lt hβ 5 rfl) (sl_s hβ 5 rfl rfl) rfl) (k_total H hNp hp hσ) rfl ?_
  refine f_lmul (M := mX8_estimate) 55 dX8_estimate_54 rfl ?_
  refine f_lstore_n (M := mX8_estimate) (ls' := [_, _, _, _, _]) 56 dX8_estimate_55 rfl rfl rfl ?_
  refine f_lload_n (M := mX8_estimate) 57 dX8_estimate_56 rfl rfl ?_
  refine f_aload_n (M := mX8_estimate) 58 dX8_estimate_57 rfl rfl ?_
  refine e_getR (M := mX8_estimate) dX8_estimate_58 fl_8026 (x_kk rfl) (x_kk rfl) rfl hS ?_
  refine e_getR (M := mX8_estimate) dX8_estimate_61 fl_8070 (x_kk rfl) (sl_lt hβ 0 rfl) (sl_s hβ 0 rfl rfl) (wf_6_2 hR hβ) ?_
  refine e_getI (M := mX8_estimate) dX8_estimate_64 fl_8074 (x_kk rfl) (sl_lt hβ 5 rfl) (sl_s hβ 5 rfl rfl) ?_
  refine f_i2l (M := mX8_estimate) 68 dX8_estimate_67 rfl ?_
  refine f_iload_n (M := mX8_estimate) 69 dX8_estimate_68 rfl rfl ?_
  refine e_cS (M := mX8_estimate) [_] 2 12 dX8_estimate_69 pa_8117 cc_8117 rfl rfl rfl rfl rfl (x_kk rfl) (x_kk rfl) rfl (c_X8_lowestTerms (by rw [(h_T H).2.1 0 (by decide), (h_C H).1]; exact (est_g (h_IT H) (h_IC H) hσ hNp hp h1).2)) rfl ?_
  refine e_rl (M := mX8_estimate) dX8_estimate_72 rfl (x_kk rfl) (x_kk rfl) ?_
  exact r_l (by rw [(h_T H).2.1 0 (by decide), (h_C H).1])
theorem mo_estimate (hR : x_wf R) {Ns Np Nl Nm : Nat} (Z : y_Z (I 226) Ns Np Nl Nm) {v : Int32} {d : Int32} (h0 : v = -1 ∨ (0 ≤ v ∧ v ≤ I 226 8 - 1)) (h1 : ¬ I 226 9 = 0) (hIT : y_IT (I 226)) (hIC : y_IC (I 226)) : x_Cv X mX9_estimate [.ref 225, .int v, .int d] (I, L, R) 233 (.inl (some (.long ((if d = 0 then (I 226 1).toInt64 * sp_sum (I 226) v Np else (I 226 9).toInt64) / x_gcd 100 ((I 226 1).toInt64 * sp_sum (I 226) v Np) ((I 226 9).toInt64)))), (x_tw I 0, L, R), 233) := by
  obtain ⟨hNs, hn, hNp, hp, hNl, hl, hNm, hmm⟩ := Z
  have hσ := sp_of hNs hn h0
  show x_Ev X mX9_estimate 0 [some (.ref 225), some (.int v), some (.int d)] [] ((I, L, R), 233, 0, 0) _
  refine f_aload_n (M := mX9_estimate) 1 dX9_estimate_0 rfl rfl ?_
  refine f_aload_n (M := mX9_estimate) 2 dX9_estimate_1 rfl rfl ?_
  refine f_iload_n (M := mX9_estimate) 3 dX9_estimate_2 rfl rfl ?_
  refine e_cV (M := mX9_estimate) [_, _] 0 0 dX9_estimate_3 pa_9151 pb_9151 cc_9151 rfl rfl rfl rfl rfl (x_kk rfl) (x_kk rfl) rfl (c_X9_isAny hR) rfl ?_
  refine e_if_neT (M := mX9_estimate) 13 dX9_estimate_6 rfl (x_bn h0) ?_
  refine f_aload_n (M := mX9_estimate) 14 dX9_estimate_13 rfl rfl ?_
  refine e_getR (M := mX9_estimate) dX9_estimate_14 fl_9007 (x_kk rfl) (x_kk rfl) rfl (wf_9_0 hR) ?_
  refine f_bipush (M := mX9_estimate) 19 dX9_estimate_17 kb_9 rfl ?_
  refine e_ild (M := mX9_estimate) (w := 606) (j := 9) dX9_estimate_19 (x_kk rfl) rfl kn_9 (by omega) (by omega) ?_
  refine e_if_neT (M := mX9_estimate) 27 dX9_estimate_20 rfl h1 ?_
  refine f_iconst (M := mX9_estimate) 28 dX9_estimate_27 ki_0 rfl ?_
  refine e_putI (M := mX9_estimate) dX9_estimate_28 fl_9033 (x_kk rfl) (x_kk rfl) rfl (fun q9 => Bool.noConfusion q9) ?_
  refine f_aload_n (M := mX9_estimate) 32 dX9_estimate_31 rfl rfl ?_
  refine e_getI (M := mX9_estimate) dX9_estimate_32 fl_9033 (x_kk rfl) (x_kk rfl) rfl ?_
  refine e_if_leT (M := mX9_estimate) 42 dX9_estimate_35 rfl (show (0 : Int32) ≤ 0 by decide) ?_
  refine f_aload_n (M := mX9_estimate) 43 dX9_estimate_42 rfl rfl ?_
  refine e_getR (M := mX9_estimate) dX9_estimate_43 fl_9007 (x_kk rfl) (x_kk rfl) rfl (wf_9_0 hR) ?_
  refine f_iconst (M := mX9_estimate) 47 dX9_estimate_46 ki_1 rfl ?_
  refine e_ild (M := mX9_estimate) (w := 606) (j := 1) dX9_estimate_47 (x_kk rfl) rfl kn_1 (by omega) (by omega) ?_
  refine f_i2l (M := mX9_estimate) 49 dX9_estimate_48 rfl ?_
  refine f_aload_n (M := mX9_estimate) 50 dX9_estimate_49 rfl rfl ?_
  refine f_iload_n (M := mX9_estimate) 51 dX9_estimate_50 rfl rfl ?_
  refine e_cV (M := mX9_estimate) [_, _] 0 0 dX9_estimate_51 pa_9143 pb_9143 cc_9143 rfl rfl rfl rfl rfl (x_kk rfl) (x_kk rfl) rfl (c_X9_sumOf (I := x_tw I 0) hR hNp hp hσ) rfl ?_
  refine f_lmul (M := mX9_estimate) 55 dX9_estimate_54 rfl ?_
  refine f_aload_n (M := mX9_estimate) 56 dX9_estimate_55 rfl rfl ?_
  refine e_getR (M := mX9_estimate) dX9_estimate_56 fl_9007 (x_kk rfl) (x_kk rfl) rfl (wf_9_0 hR) ?_
  refine f_bipush (M := mX9_estimate) 61 dX9_estimate_59 kb_9 rfl ?_
  refine e_ild (M := mX9_estimate) (w := 606) (j := 9) dX9_estimate_61 (x_kk rfl) rfl kn_9 (by omega) (by omega) ?_
  refine f_i2l (M := mX9_estimate) 63 dX9_estimate_62 rfl ?_
  refine f_iload_n (M := mX9_estimate) 64 dX9_estimate_63 rfl rfl ?_
  refine e_cS (M := mX9_estimate) [_] 0 0 dX9_estimate_64 pa_9154 cc_9154 rfl rfl rfl rfl rfl (x_kk rfl) (x_kk rfl) rfl (c_X9_part (est_g hIT hIC hσ hNp hp h1).1 (est_g hIT hIC hσ hNp hp h1).2) rfl ?_
  refine e_rl (M := mX9_estimate) dX9_estimate_67 rfl (x_kk rfl) (x_kk rfl) ?_
  rfl
theorem ko_squaredError {N β : Nat} {a : Nat → Int32} {b : Nat → Int64} (H : y_CS N I L R β a b) {Ns Np Nl Nm : Nat} (Z : y_Z a Ns Np Nl Nm) {v : Int32} {d : Int32} (h0 : v = -1 ∨ (0 ≤ v ∧ v ≤ a 8 - 1)) (h1 : 2 ≤ a 9)  : x_Cv X mX8_squaredError [.ref 0, .int v, .int d] (I, L, R) 233 (.inl (some (.long ((if d = 0 then (a 1).toInt64 * ((a 1).toInt64 - (a 9).toInt64) * sp_spread (a) v Np else (a 9).toInt64 * (a 9).toInt64 * ((a 9).toInt64 - 1)) / x_gcd 100 ((a 1).toInt64 * ((a 1).toInt64 - (a 9).toInt64) * sp_spread (a) v Np) ((a 9).toInt64 * (a 9).toInt64 * ((a 9).toInt64 - 1))))), (I, L, R), 233) := by
  obtain ⟨hNs, hn, hNp, hp, hNl, hl, hNm, hmm⟩ := Z
  have hR := h_R H
  have hβ := h_β H
  have hS := h_S H
  have hσ := sp_of hNs hn h0
  show x_Ev X mX8_squaredError 0 [some (.ref 0), some (.int v), some (.int d), none, none, none, none, none, none] [] ((I, L, R), 233, 0, 0) _
  refine f_aload_n (M := mX8_squaredError) 1 dX8_squaredError_0 rfl rfl ?_
  refine f_iload_n (M := mX8_squaredError) 2 dX8_squaredError_1 rfl rfl ?_
  refine e_cV (M := mX8_squaredError) [_] 0 0 dX8_squaredError_2 pa_8109 pb_8109 cc_8109 rfl rfl rfl rfl rfl (x_kk rfl) (x_kk rfl) rfl (k_isAny H) rfl ?_
  refine e_cS (M := mX8_squaredError) [] 1 6 dX8_squaredError_5 pa_8103 cc_8103 rfl rfl rfl rfl rfl (x_kk rfl) (x_kk rfl) rfl (c_X8_requireExisting (x_bn h0)) rfl ?_
  refine f_aload_n (M := mX8_squaredError) 9 dX8_squaredError_8 rfl rfl ?_
  refine e_getR (M := mX8_squaredError) dX8_squaredError_9 fl_8026 (x_kk rfl) (x_kk rfl) rfl hS ?_
  refine e_getR (M := mX8_squaredError) dX8_squaredError_12 fl_8070 (x_kk rfl) (sl_lt hβ 0 rfl) (sl_s hβ 0 rfl rfl) (wf_6_2 hR hβ) ?_
  refine e_getI (M := mX8_squaredError) dX8_squaredError_15 fl_8074 (x_kk rfl) (sl_lt hβ 5 rfl) (sl_s hβ 5 rfl rfl) ?_
  refine f_iconst (M := mX8_squaredError) 19 dX8_squaredError_18 ki_2 rfl ?_
  refine e_icmp_ltF (M := mX8_squaredError) 26 dX8_squaredError_19 rfl (i_nlt.mpr (by rw [(h_C H).1]; exact h1)) ?_
  refine f_iconst (M := mX8_squaredError) 23 dX8_squaredError_22 ki_1 rfl ?_
  refine f_goto (M := mX8_squaredError) 27 dX8_squaredError_23 rfl ?_
  refine e_cS (M := mX8_squaredError) [] 2 12 dX8_squaredError_27 pa_8037 cc_8037 rfl rfl rfl rfl rfl (x_kk rfl) (x_kk rfl) rfl (c_X8_requireState (by decide)) rfl ?_
  refine f_aload_n (M := mX8_squaredError) 31 dX8_squaredError_30 rfl rfl ?_
  refine e_getR (M := mX8_squaredError) dX8_squaredError_31 fl_8026 (x_kk rfl) (x_kk rfl) rfl hS ?_
  refine e_getR (M := mX8_squaredError) dX8_squaredError_34 fl_8083 (x_kk rfl) (sl_lt hβ 0 rfl) (sl_s hβ 0 rfl rfl) (wf_6_1 hR hβ) ?_
  refine e_getR (M := mX8_squaredError) dX8_squaredError_37 fl_8087 (x_kk rfl) (sl_lt hβ 1 rfl) (sl_s hβ 1 rfl rfl) (wf_7_1 hR hβ) ?_
  refine f_iconst (M := mX8_squaredError) 41 dX8_squaredError_40 ki_0 rfl ?_
  refine e_ild (M := mX8_squaredError) (w := 7) (j := 0) dX8_squaredError_41 (sl_lt hβ 2 rfl) (sl_shp hβ 2 rfl) kn_0 (by omega) (by omega) ?_
  refine f_i2l (M := mX8_squaredError) 43 dX8_squaredError_42 rfl ?_
  refine f_lstore_n (M := mX8_squaredError) (ls' := [_, _, _, _, _, _, _, _, _]) 44 dX8_squaredError_43 rfl rfl rfl ?_
  refine f_aload_n (M := mX8_squaredError) 45 dX8_squaredError_44 rfl rfl ?_
  refine e_getR (M := mX8_squaredError) dX8_squaredError_45 fl_8026 (x_kk rfl) (x_kk rfl) rfl hS ?_
  refine e_getR (M := mX8_squaredError) dX8_squaredError_48 fl_8070 (x_kk rfl) (sl_lt hβ 0 rfl) (sl_s hβ 0 rfl rfl) (wf_6_2 hR hβ) ?_
  refine e_getI (M := mX8_squaredError) dX8_squaredError_51 fl_8074 (x_kk rfl) (sl_lt hβ 5 rfl) (sl_s hβ 5 rfl rfl) ?_
  refine f_i2l (M := mX8_squaredError) 55 dX8_squaredError_54 rfl ?_
  refine f_lstore (M := mX8_squaredError) (ls' := [_, _, _, _, _, _, _, _, _]) 57 dX8_squaredError_55 rfl rfl rfl ?_
  refine f_lload_n (M := mX8_squaredError) 58 dX8_squaredError_57 rfl rfl ?_
  refine f_lload_n (M := mX8_squaredError) 59 dX8_squaredError_58 rfl rfl ?_
  refine f_lload (M := mX8_squaredError) 61 dX8_squaredError_59 rfl rfl ?_
  refine f_lsub (M := mX8_squaredError) 62 dX8_squaredError_61 rfl ?_
  refine f_lmul (M := mX8_squaredError) 63 dX8_squaredError_62 rfl ?_
  refine f_aload_n (M := mX8_squaredError) 64 dX8_squaredError_63 rfl rfl ?_
  refine e_getR (M := mX8_squaredError) dX8_squaredError_64 fl_8026 (x_kk rfl) (x_kk rfl) rfl hS ?_
  refine e_getR (M := mX8_squaredError) dX8_squaredError_67 fl_8070 (x_kk rfl) (sl_lt hβ 0 rfl) (sl_s hβ 0 rfl rfl) (wf_6_2 hR hβ) ?_
  refine f_iload_n (M := mX8_squaredError) 71 dX8_squaredError_70 rfl rfl ?_
  refine e_cV (M := mX8_squaredError) [_, _] 2 12 dX8_squaredError_71 pa_8121 pb_8121 cc_8121 rfl rfl rfl rfl rfl (x_kk rfl) (x_kk rfl) (x_rcvOK (sl_lt hβ 5 rfl) (sl_s hβ 5 rfl rfl) rfl) (k_spread H hNp hp hσ) rfl ?_
  refine f_lmul (M := mX8_squaredError) 75 dX8_squaredError_74 rfl ?_
  refine f_lstore (M := mX8_squaredError) (ls' := [_, _, _, _, _, _, _, _, _]) 77 dX8_squaredError_75 rfl rfl rfl ?_
  refine f_lload (M := mX8_squaredError) 79 dX8_squaredError_77 rfl rfl ?_
  refine f_lload (M := mX8_squaredError) 81 dX8_squaredError_79 rfl rfl ?_
  refine f_lload (M := mX8_squaredError) 83 dX8_squaredError_81 rfl rfl ?_
  refine f_lmul (M := mX8_squaredError) 84 dX8_squaredError_83 rfl ?_
  refine f_lload (M := mX8_squaredError) 86 dX8_squaredError_84 rfl rfl ?_
  refine f_lconst (M := mX8_squaredError) 87 dX8_squaredError_86 kl_1 rfl ?_
  refine f_lsub (M := mX8_squaredError) 88 dX8_squaredError_87 rfl ?_
  refine f_lmul (M := mX8_squaredError) 89 dX8_squaredError_88 rfl ?_
  refine f_iload_n (M := mX8_squaredError) 90 dX8_squaredError_89 rfl rfl ?_
  refine e_cS (M := mX8_squaredError) [_] 2 12 dX8_squaredError_90 pa_8117 cc_8117 rfl rfl rfl rfl rfl (x_kk rfl) (x_kk rfl) rfl (c_X8_lowestTerms (by rw [(h_T H).2.1 0 (by decide), (h_C H).1]; exact (se_g (h_IT H) (h_IC H) hσ hNp hp h1).2)) rfl ?_
  refine e_rl (M := mX8_squaredError) dX8_squaredError_93 rfl (x_kk rfl) (x_kk rfl) ?_
  exact r_l (by rw [(h_T H).2.1 0 (by decide), (h_C H).1])
theorem mo_squaredError (hR : x_wf R) {Ns Np Nl Nm : Nat} (Z : y_Z (I 226) Ns Np Nl Nm) {v : Int32} {d : Int32} (h0 : v = -1 ∨ (0 ≤ v ∧ v ≤ I 226 8 - 1)) (h1 : 2 ≤ I 226 9) (hIT : y_IT (I 226)) (hIC : y_IC (I 226)) : x_Cv X mX9_squaredError [.ref 225, .int v, .int d] (I, L, R) 233 (.inl (some (.long ((if d = 0 then (I 226 1).toInt64 * ((I 226 1).toInt64 - (I 226 9).toInt64) * sp_spread (I 226) v Np else (I 226 9).toInt64 * (I 226 9).toInt64 * ((I 226 9).toInt64 - 1)) / x_gcd 100 ((I 226 1).toInt64 * ((I 226 1).toInt64 - (I 226 9).toInt64) * sp_spread (I 226) v Np) ((I 226 9).toInt64 * (I 226 9).toInt64 * ((I 226 9).toInt64 - 1))))), (x_tw I 0, L, R), 233) := by
  obtain ⟨hNs, hn, hNp, hp, hNl, hl, hNm, hmm⟩ := Z
  have hσ := sp_of hNs hn h0
  show x_Ev X mX9_squaredError 0 [some (.ref 225), some (.int v), some (.int d), none, none] [] ((I, L, R), 233, 0, 0) _
  refine f_aload_n (M := mX9_squaredError) 1 dX9_squaredError_0 rfl rfl ?_
  refine f_aload_n (M := mX9_squaredError) 2 dX9_squaredError_1 rfl rfl ?_
  refine f_iload_n (M := mX9_squaredError) 3 dX9_squaredError_2 rfl rfl ?_
  refine e_cV (M := mX9_squaredError) [_, _] 0 0 dX9_squaredError_3 pa_9151 pb_9151 cc_9151 rfl rfl rfl rfl rfl (x_kk rfl) (x_kk rfl) rfl (c_X9_isAny hR) rfl ?_
  refine e_if_neT (M := mX9_squaredError) 13 dX9_squaredError_6 rfl (x_bn h0) ?_
  refine f_aload_n (M := mX9_squaredError) 14 dX9_squaredError_13 rfl rfl ?_
  refine e_getR (M := mX9_squaredError) dX9_squaredError_14 fl_9007 (x_kk rfl) (x_kk rfl) rfl (wf_9_0 hR) ?_
  refine f_bipush (M := mX9_squaredError) 19 dX9_squaredError_17 kb_9 rfl ?_
  refine e_ild (M := mX9_squaredError) (w := 606) (j := 9) dX9_squaredError_19 (x_kk rfl) rfl kn_9 (by omega) (by omega) ?_
  refine f_iconst (M := mX9_squaredError) 21 dX9_squaredError_20 ki_2 rfl ?_
  refine e_icmp_geT (M := mX9_squaredError) 28 dX9_squaredError_21 rfl h1 ?_
  refine f_iconst (M := mX9_squaredError) 29 dX9_squaredError_28 ki_0 rfl ?_
  refine e_putI (M := mX9_squaredError) dX9_squaredError_29 fl_9033 (x_kk rfl) (x_kk rfl) rfl (fun q9 => Bool.noConfusion q9) ?_
  refine f_aload_n (M := mX9_squaredError) 33 dX9_squaredError_32 rfl rfl ?_
  refine e_getI (M := mX9_squaredError) dX9_squaredError_33 fl_9033 (x_kk rfl) (x_kk rfl) rfl ?_
  refine e_if_leT (M := mX9_squaredError) 41 dX9_squaredError_36 rfl (show (0 : Int32) ≤ 0 by decide) ?_
  refine f_aload_n (M := mX9_squaredError) 42 dX9_squaredError_41 rfl rfl ?_
  refine e_getR (M := mX9_squaredError) dX9_squaredError_42 fl_9007 (x_kk rfl) (x_kk rfl) rfl (wf_9_0 hR) ?_
  refine f_bipush (M := mX9_squaredError) 47 dX9_squaredError_45 kb_9 rfl ?_
  refine e_ild (M := mX9_squaredError) (w := 606) (j := 9) dX9_squaredError_47 (x_kk rfl) rfl kn_9 (by omega) (by omega) ?_
  refine f_i2l (M := mX9_squaredError) 49 dX9_squaredError_48 rfl ?_
  refine f_lstore_n (M := mX9_squaredError) (ls' := [_, _, _, _, _]) 50 dX9_squaredError_49 rfl rfl rfl ?_
  refine f_aload_n (M := mX9_squaredError) 51 dX9_squaredError_50 rfl rfl ?_
  refine e_getR (M := mX9_squaredError) dX9_squaredError_51 fl_9007 (x_kk rfl) (x_kk rfl) rfl (wf_9_0 hR) ?_
  refine f_iconst (M := mX9_squaredError) 55 dX9_squaredError_54 ki_1 rfl ?_
  refine e_ild (M := mX9_squaredError) (w := 606) (j := 1) dX9_squaredError_55 (x_kk rfl) rfl kn_1 (by omega) (by omega) ?_
  refine f_i2l (M := mX9_squaredError) 57 dX9_squaredError_56 rfl ?_
  refine f_aload_n (M := mX9_squaredError) 58 dX9_squaredError_57 rfl rfl ?_
  refine e_getR (M := mX9_squaredError) dX9_squaredError_58 fl_9007 (x_kk rfl) (x_kk rfl) rfl (wf_9_0 hR) ?_
  refine f_iconst (M := mX9_squaredError) 62 dX9_squaredError_61 ki_1 rfl ?_
  refine e_ild (M := mX9_squaredError) (w := 606) (j := 1) dX9_squaredError_62 (x_kk rfl) rfl kn_1 (by omega) (by omega) ?_
  refine f_i2l (M := mX9_squaredError) 64 dX9_squaredError_63 rfl ?_
  refine f_lload_n (M := mX9_squaredError) 65 dX9_squaredError_64 rfl rfl ?_
  refine f_lsub (M := mX9_squaredError) 66 dX9_squaredError_65 rfl ?_
  refine f_lmul (M := mX9_squaredError) 67 dX9_squaredError_66 rfl ?_
  refine f_aload_n (M := mX9_squaredError) 68 dX9_squaredError_67 rfl rfl ?_
  refine f_iload_n (M := mX9_squaredError) 69 dX9_squaredError_68 rfl rfl ?_
  refine e_cV (M := mX9_squaredError) [_, _] 0 0 dX9_squaredError_69 pa_9158 pb_9158 cc_9158 rfl rfl rfl rfl rfl (x_kk rfl) (x_kk rfl) rfl (c_X9_spreadOf (I := x_tw I 0) hR hNp hp hσ) rfl ?_
  refine f_lmul (M := mX9_squaredError) 73 dX9_squaredError_72 rfl ?_
  refine f_lload_n (M := mX9_squaredError) 74 dX9_squaredError_73 rfl rfl ?_
  refine f_lload_n (M := mX9_squaredError) 75 dX9_squaredError_74 rfl rfl ?_
  refine f_lmul (M := mX9_squaredError) 76 dX9_squaredError_75 rfl ?_
  refine f_lload_n (M := mX9_squaredError) 77 dX9_squaredError_76 rfl rfl ?_
  refine f_lconst (M := mX9_squaredError) 78 dX9_squaredError_77 kl_1 rfl ?_
  refine f_lsub (M := mX9_squaredError) 79 dX9_squaredError_78 rfl ?_
  refine f_lmul (M := mX9_squaredError) 80 dX9_squaredError_79 rfl ?_
  refine f_iload_n (M := mX9_squaredError) 81 dX9_squaredError_80 rfl rfl ?_
  refine e_cS (M := mX9_squaredError) [_] 0 0 dX9_squaredError_81 pa_9154 cc_9154 rfl rfl rfl rfl rfl (x_kk rfl) (x_kk rfl) rfl (c_X9_part (se_g hIT hIC hσ hNp hp h1).1 (se_g hIT hIC hσ hNp hp h1).2) rfl ?_
  refine e_rl (M := mX9_squaredError) dX9_squaredError_84 rfl (x_kk rfl) (x_kk rfl) ?_
  rfl
theorem sim_estimate (T : y_T N I L R) {v : Int32} {d : Int32} : y_OL N X mL_estimate [.ref 0, .int v, .int d, .ref 232] mX9_estimate [.ref 225, .int v, .int d] I L R := by
  have T0 := T
  obtain ⟨a, b, kn, ks, bf, bn, ep, ⟨β, δ, γ, ν, hB⟩, hM, hI⟩ := T
  have H : y_CS N I L R β a b := ⟨hM.1, hB.1.2.1, hB.1.2.2.2.2.1, hB.2.2.2.2.2.1, hI.1⟩
  obtain ⟨Ns, Np, Nl, Nm, Z⟩ := Z_of hI.1
  have hR := hM.1
  have ha : I 226 = a := hM.2.1
  have hb : L 229 = b := hM.2.2.1
  subst ha
  subst hb
  obtain ⟨hNs, hn, hNp, hp, hNl, hl, hNm, hmm⟩ := id Z
  by_cases h0 : v = -1 ∨ (0 ≤ v ∧ v ≤ I 226 8 - 1)
  · skip
    by_cases h1 : ¬ I 226 9 = 0
    · skip
      exact OL_q T0 (w_estimate (ko_estimate H Z h0 h1)) (mo_estimate hR Z h0 h1 (h_IT H) (h_IC H))
    · exact OL_x T0 (by decide) (w_estimate_x0 (kf_estimate_1 H Z h0 h1)) (mf_estimate_1 hR Z h0 h1)
  · exact OL_x T0 (by decide) (w_estimate_x2 (kf_estimate_0 H Z h0)) (mf_estimate_0 hR Z h0)
theorem sim_squaredError (T : y_T N I L R) {v : Int32} {d : Int32} : y_OL N X mL_squaredError [.ref 0, .int v, .int d, .ref 232] mX9_squaredError [.ref 225, .int v, .int d] I L R := by
  have T0 := T
  obtain ⟨a, b, kn, ks, bf, bn, ep, ⟨β, δ, γ, ν, hB⟩, hM, hI⟩ := T
  have H : y_CS N I L R β a b := ⟨hM.1, hB.1.2.1, hB.1.2.2.2.2.1, hB.2.2.2.2.2.1, hI.1⟩
  obtain ⟨Ns, Np, Nl, Nm, Z⟩ := Z_of hI.1
  have hR := hM.1
  have ha : I 226 = a := hM.2.1
  have hb : L 229 = b := hM.2.2.1
  subst ha
  subst hb
  obtain ⟨hNs, hn, hNp, hp, hNl, hl, hNm, hmm⟩ := id Z
  by_cases h0 : v = -1 ∨ (0 ≤ v ∧ v ≤ I 226 8 - 1)
  · skip
    by_cases h1 : 2 ≤ I 226 9
    · skip
      exact OL_q T0 (w_squaredError (ko_squaredError H Z h0 h1)) (mo_squaredError hR Z h0 h1 (h_IT H) (h_IC H))
    · exact OL_x T0 (by decide) (w_squaredError_x0 (kf_squaredError_1 H Z h0 h1)) (mf_squaredError_1 hR Z h0 h1)
  · exact OL_x T0 (by decide) (w_squaredError_x2 (kf_squaredError_0 H Z h0)) (mf_squaredError_0 hR Z h0)
def sp_infd (a : Nat → Int32) (σ : Int32) (n p : Nat) : Int64 := if 0 ≤ (a 9).toInt64 * (sp_in a σ p).toInt64 - sp_sum a σ n then (a 9).toInt64 * (sp_in a σ p).toInt64 - sp_sum a σ n else -((a 9).toInt64 * (sp_in a σ p).toInt64 - sp_sum a σ n)
def sp_inf (f : Nat → Int64) : Nat → Nat × Int64
  | 0 => (0, -1)
  | n + 1 => if f n ≤ (sp_inf f n).2 then sp_inf f n else (n, f n)
theorem inf_0 {f : Nat → Int64} {n : Nat} {v : Int64} (hv : f n = v) (h : v ≤ (sp_inf f n).2) : sp_inf f (n + 1) = sp_inf f n := by rw [sp_inf, hv, if_pos h]
theorem inf_1 {f : Nat → Int64} {n : Nat} {v : Int64} (hv : f n = v) (h : ¬ v ≤ (sp_inf f n).2) : sp_inf f (n + 1) = (n, v) := by rw [sp_inf, hv, if_neg h]
theorem l_X2_mostInfluential {N β : Nat} {a : Nat → Int32} {b : Nat → Int64} (H : y_CS N I L R β a b) {Np : Nat} (hNp : Np ≤ 30) (hp : a 9 = Int32.ofNat Np) {σ : Int32} (hσ : x_spec σ) {w : Option Value} : ∀ d k, k + d = Np → x_Ev X mX2_mostInfluential 17 [some (.ref (β + 5)), some (.int σ), some (.long (sp_sum a σ Np)), none, some (.int (Int32.ofNat (sp_inf (sp_infd a σ Np) k).1)), some (.long (sp_inf (sp_infd a σ Np) k).2), none, some (.int (Int32.ofNat k)), w, none] [] ((I, L, R), 233, 0, 0) (.inl (some (.int (Int32.ofNat (sp_inf (sp_infd a σ Np) Np).1))), (I, L, R), 233) := by
  have hR := h_R H
  intro d
  induction d generalizing w with
  | zero =>
    intro k hd
    obtain rfl : Np = k := by omega
    refine f_iload (M := mX2_mostInfluential) 19 dX2_mostInfluential_17 rfl rfl ?_
    refine f_aload_n (M := mX2_mostInfluential) 20 dX2_mostInfluential_19 rfl rfl ?_
    refine e_getI (M := mX2_mostInfluential) dX2_mostInfluential_20 fl_2015 (x_kk rfl) (sl_lt (h_β H) 5 rfl) (sl_s (h_β H) 5 rfl rfl) ?_
    refine e_icmp_geT (M := mX2_mostInfluential) 68 dX2_mostInfluential_23 rfl (by rw [(h_C H).1, hp]; exact Int32.le_refl _) ?_
    refine f_iload (M := mX2_mostInfluential) 70 dX2_mostInfluential_68 rfl rfl ?_
    refine e_ri (M := mX2_mostInfluential) dX2_mostInfluential_70 rfl (x_kk rfl) (x_kk rfl) ?_
    rfl
  | succ d ih =>
    intro k hd
    refine f_iload (M := mX2_mostInfluential) 19 dX2_mostInfluential_17 rfl rfl ?_
    refine f_aload_n (M := mX2_mostInfluential) 20 dX2_mostInfluential_19 rfl rfl ?_
    refine e_getI (M := mX2_mostInfluential) dX2_mostInfluential_20 fl_2015 (x_kk rfl) (sl_lt (h_β H) 5 rfl) (sl_s (h_β H) 5 rfl rfl) ?_
    refine e_icmp_geF (M := mX2_mostInfluential) 68 dX2_mostInfluential_23 rfl (by rw [(h_C H).1, hp, n_le (by omega) (by omega)]; omega) ?_
    refine f_aload_n (M := mX2_mostInfluential) 27 dX2_mostInfluential_26 rfl rfl ?_
    refine e_getI (M := mX2_mostInfluential) dX2_mostInfluential_27 fl_2015 (x_kk rfl) (sl_lt (h_β H) 5 rfl) (sl_s (h_β H) 5 rfl rfl) ?_
    refine f_i2l (M := mX2_mostInfluential) 31 dX2_mostInfluential_30 rfl ?_
    refine f_aload_n (M := mX2_mostInfluential) 32 dX2_mostInfluential_31 rfl rfl ?_
    refine f_iload (M := mX2_mostInfluential) 34 dX2_mostInfluential_32 rfl rfl ?_
    refine f_iload_n (M := mX2_mostInfluential) 35 dX2_mostInfluential_34 rfl rfl ?_
    refine e_cV (M := mX2_mostInfluential) [_, _] 0 0 dX2_mostInfluential_35 pa_2035 pb_2035 cc_2035 rfl rfl rfl rfl rfl (x_kk rfl) (x_kk rfl) (x_rcvOK (sl_lt (h_β H) 5 rfl) (sl_s (h_β H) 5 rfl rfl) rfl) (k_volumeIn H (by omega) hσ) rfl ?_
    refine f_lmul (M := mX2_mostInfluential) 39 dX2_mostInfluential_38 rfl ?_
    refine f_lload_n (M := mX2_mostInfluential) 40 dX2_mostInfluential_39 rfl rfl ?_
    refine f_lsub (M := mX2_mostInfluential) 41 dX2_mostInfluential_40 rfl ?_
    refine e_cS (M := mX2_mostInfluential) [_] 0 0 dX2_mostInfluential_41 pa_2050 cc_2050 rfl rfl rfl rfl rfl (x_kk rfl) (x_kk rfl) rfl (c_J9_abs_067f4) rfl ?_
    refine f_lstore (M := mX2_mostInfluential) (ls' := [_, _, _, _, _, _, _, _, _, _]) 46 dX2_mostInfluential_44 rfl rfl rfl ?_
    rw [(h_C H).1]
    refine f_lload (M := mX2_mostInfluential) 48 dX2_mostInfluential_46 rfl rfl ?_
    refine f_lload (M := mX2_mostInfluential) 50 dX2_mostInfluential_48 rfl rfl ?_
    refine f_lcmp (M := mX2_mostInfluential) 51 dX2_mostInfluential_50 rfl ?_
    refine e_if_le (M := mX2_mostInfluential) (t := 62) dX2_mostInfluential_51 rfl (fun h1 => ?_) (fun h1 => ?_)
    · refine f_iinc (M := mX2_mostInfluential) (ls' := [_, _, _, _, _, _, _, _, _, _]) 65 dX2_mostInfluential_62 ki_1 rfl rfl rfl rfl ?_
      refine f_goto (M := mX2_mostInfluential) 17 dX2_mostInfluential_65 rfl ?_
      rw [n_inc (s := k)]; have ih1 := fun w => ih (w := w) (k + 1) (by omega); rw [show sp_inf (sp_infd a σ Np) (k + 1) = _ from inf_0 rfl (lc_le.mp h1)] at ih1; exact ih1 _
    · refine f_lload (M := mX2_mostInfluential) 56 dX2_mostInfluential_54 rfl rfl ?_
      refine f_lstore (M := mX2_mostInfluential) (ls' := [_, _, _, _, _, _, _, _, _, _]) 58 dX2_mostInfluential_56 rfl rfl rfl ?_
      refine f_iload (M := mX2_mostInfluential) 60 dX2_mostInfluential_58 rfl rfl ?_
      refine f_istore (M := mX2_mostInfluential) (ls' := [_, _, _, _, _, _, _, _, _, _]) 62 dX2_mostInfluential_60 rfl rfl rfl ?_
      refine f_iinc (M := mX2_mostInfluential) (ls' := [_, _, _, _, _, _, _, _, _, _]) 65 dX2_mostInfluential_62 ki_1 rfl rfl rfl rfl ?_
      refine f_goto (M := mX2_mostInfluential) 17 dX2_mostInfluential_65 rfl ?_
      rw [n_inc (s := k)]; have ih1 := fun w => ih (w := w) (k + 1) (by omega); rw [show sp_inf (sp_infd a σ Np) (k + 1) = _ from inf_1 rfl (fun z => h1 (lc_le.mpr z))] at ih1; exact ih1 _
theorem k_mostInfluential {N β : Nat} {a : Nat → Int32} {b : Nat → Int64} (H : y_CS N I L R β a b) {Np : Nat} (hNp : Np ≤ 30) (hp : a 9 = Int32.ofNat Np) {σ : Int32} (hσ : x_spec σ) : x_Cv X mX2_mostInfluential [.ref (β + 5), .int σ] (I, L, R) 233 (.inl (some (.int (Int32.ofNat (sp_inf (sp_infd a σ Np) Np).1))), (I, L, R), 233) := by
  have hR := h_R H
  show x_Ev X mX2_mostInfluential 0 [some (.ref (β + 5)), some (.int σ), none, none, none, none, none, none, none, none] [] ((I, L, R), 233, 0, 0) _
  refine f_aload_n (M := mX2_mostInfluential) 1 dX2_mostInfluential_0 rfl rfl ?_
  refine f_iload_n (M := mX2_mostInfluential) 2 dX2_mostInfluential_1 rfl rfl ?_
  refine e_cV (M := mX2_mostInfluential) [_] 0 0 dX2_mostInfluential_2 pa_2045 pb_2045 cc_2045 rfl rfl rfl rfl rfl (x_kk rfl) (x_kk rfl) (x_rcvOK (sl_lt (h_β H) 5 rfl) (sl_s (h_β H) 5 rfl rfl) rfl) (k_total H hNp hp hσ) rfl ?_
  refine f_lstore_n (M := mX2_mostInfluential) (ls' := [_, _, _, _, _, _, _, _, _, _]) 6 dX2_mostInfluential_5 rfl rfl rfl ?_
  refine f_iconst (M := mX2_mostInfluential) 7 dX2_mostInfluential_6 ki_0 rfl ?_
  refine f_istore (M := mX2_mostInfluential) (ls' := [_, _, _, _, _, _, _, _, _, _]) 9 dX2_mostInfluential_7 rfl rfl rfl ?_
  refine f_ldc2 (M := mX2_mostInfluential) 12 dX2_mostInfluential_9 (x_kk rfl) csl_2048 rfl ?_
  refine f_lstore (M := mX2_mostInfluential) (ls' := [_, _, _, _, _, _, _, _, _, _]) 14 dX2_mostInfluential_12 rfl rfl rfl ?_
  refine f_iconst (M := mX2_mostInfluential) 15 dX2_mostInfluential_14 ki_0 rfl ?_
  refine f_istore (M := mX2_mostInfluential) (ls' := [_, _, _, _, _, _, _, _, _, _]) 17 dX2_mostInfluential_15 rfl rfl rfl ?_
  exact l_X2_mostInfluential H hNp hp hσ Np 0 (by omega)
theorem ko_mostInfluentialPlot {N β : Nat} {a : Nat → Int32} {b : Nat → Int64} (H : y_CS N I L R β a b) {Ns Np Nl Nm : Nat} (Z : y_Z a Ns Np Nl Nm) {v : Int32} (h0 : v = -1 ∨ (0 ≤ v ∧ v ≤ a 8 - 1)) (h1 : 2 ≤ a 9)  : x_Cv X mX8_mostInfluentialPlot [.ref 0, .int v] (I, L, R) 233 (.inl (some (.int (Int32.ofNat (sp_inf (sp_infd a v Np) Np).1))), (I, L, R), 233) := by
  obtain ⟨hNs, hn, hNp, hp, hNl, hl, hNm, hmm⟩ := Z
  have hR := h_R H
  have hβ := h_β H
  have hS := h_S H
  have hσ := sp_of hNs hn h0
  show x_Ev X mX8_mostInfluentialPlot 0 [some (.ref 0), some (.int v)] [] ((I, L, R), 233, 0, 0) _
  refine f_aload_n (M := mX8_mostInfluentialPlot) 1 dX8_mostInfluentialPlot_0 rfl rfl ?_
  refine f_iload_n (M := mX8_mostInfluentialPlot) 2 dX8_mostInfluentialPlot_1 rfl rfl ?_
  refine e_cV (M := mX8_mostInfluentialPlot) [_] 0 0 dX8_mostInfluentialPlot_2 pa_8109 pb_8109 cc_8109 rfl rfl rfl rfl rfl (x_kk rfl) (x_kk rfl) rfl (k_isAny H) rfl ?_
  refine e_cS (M := mX8_mostInfluentialPlot) [] 1 6 dX8_mostInfluentialPlot_5 pa_8103 cc_8103 rfl rfl rfl rfl rfl (x_kk rfl) (x_kk rfl) rfl (c_X8_requireExisting (x_bn h0)) rfl ?_
  refine f_aload_n (M := mX8_mostInfluentialPlot) 9 dX8_mostInfluentialPlot_8 rfl rfl ?_
  refine e_getR (M := mX8_mostInfluentialPlot) dX8_mostInfluentialPlot_9 fl_8026 (x_kk rfl) (x_kk rfl) rfl hS ?_
  refine e_getR (M := mX8_mostInfluentialPlot) dX8_mostInfluentialPlot_12 fl_8070 (x_kk rfl) (sl_lt hβ 0 rfl) (sl_s hβ 0 rfl rfl) (wf_6_2 hR hβ) ?_
  refine e_getI (M := mX8_mostInfluentialPlot) dX8_mostInfluentialPlot_15 fl_8074 (x_kk rfl) (sl_lt hβ 5 rfl) (sl_s hβ 5 rfl rfl) ?_
  refine f_iconst (M := mX8_mostInfluentialPlot) 19 dX8_mostInfluentialPlot_18 ki_2 rfl ?_
  refine e_icmp_ltF (M := mX8_mostInfluentialPlot) 26 dX8_mostInfluentialPlot_19 rfl (i_nlt.mpr (by rw [(h_C H).1]; exact h1)) ?_
  refine f_iconst (M := mX8_mostInfluentialPlot) 23 dX8_mostInfluentialPlot_22 ki_1 rfl ?_
  refine f_goto (M := mX8_mostInfluentialPlot) 27 dX8_mostInfluentialPlot_23 rfl ?_
  refine e_cS (M := mX8_mostInfluentialPlot) [] 2 12 dX8_mostInfluentialPlot_27 pa_8037 cc_8037 rfl rfl rfl rfl rfl (x_kk rfl) (x_kk rfl) rfl (c_X8_requireState (by decide)) rfl ?_
  refine f_aload_n (M := mX8_mostInfluentialPlot) 31 dX8_mostInfluentialPlot_30 rfl rfl ?_
  refine e_getR (M := mX8_mostInfluentialPlot) dX8_mostInfluentialPlot_31 fl_8026 (x_kk rfl) (x_kk rfl) rfl hS ?_
  refine e_getR (M := mX8_mostInfluentialPlot) dX8_mostInfluentialPlot_34 fl_8070 (x_kk rfl) (sl_lt hβ 0 rfl) (sl_s hβ 0 rfl rfl) (wf_6_2 hR hβ) ?_
  refine f_iload_n (M := mX8_mostInfluentialPlot) 38 dX8_mostInfluentialPlot_37 rfl rfl ?_
  refine e_cV (M := mX8_mostInfluentialPlot) [_] 2 12 dX8_mostInfluentialPlot_38 pa_8135 pb_8135 cc_8135 rfl rfl rfl rfl rfl (x_kk rfl) (x_kk rfl) (x_rcvOK (sl_lt hβ 5 rfl) (sl_s hβ 5 rfl rfl) rfl) (k_mostInfluential H hNp hp hσ) rfl ?_
  refine e_ri (M := mX8_mostInfluentialPlot) dX8_mostInfluentialPlot_41 rfl (x_kk rfl) (x_kk rfl) ?_
  rfl
theorem l_X9_mostInfluentialPlot (hR : x_wf R) {Np : Nat} (hNp : Np ≤ 30) (hp : I 226 9 = Int32.ofNat Np) {σ : Int32} (hσ : x_spec σ) {w : Option Value} : ∀ d k, k + d = Np → x_Ev X mX9_mostInfluentialPlot 50 [some (.ref 225), some (.int σ), some (.int (Int32.ofNat (sp_inf (sp_infd (I 226) σ Np) k).1)), some (.long (sp_inf (sp_infd (I 226) σ Np) k).2), none, some (.int (Int32.ofNat k)), w, none] [] ((I, L, R), 233, 0, 0) (.inl (some (.int (Int32.ofNat (sp_inf (sp_infd (I 226) σ Np) Np).1))), (I, L, R), 233) := by
  intro d
  induction d generalizing w with
  | zero =>
    intro k hd
    obtain rfl : Np = k := by omega
    refine f_iload (M := mX9_mostInfluentialPlot) 52 dX9_mostInfluentialPlot_50 rfl rfl ?_
    refine f_aload_n (M := mX9_mostInfluentialPlot) 53 dX9_mostInfluentialPlot_52 rfl rfl ?_
    refine e_getR (M := mX9_mostInfluentialPlot) dX9_mostInfluentialPlot_53 fl_9007 (x_kk rfl) (x_kk rfl) rfl (wf_9_0 hR) ?_
    refine f_bipush (M := mX9_mostInfluentialPlot) 58 dX9_mostInfluentialPlot_56 kb_9 rfl ?_
    refine e_ild (M := mX9_mostInfluentialPlot) (w := 606) (j := 9) dX9_mostInfluentialPlot_58 (x_kk rfl) rfl kn_9 (by omega) (by omega) ?_
    refine e_icmp_geT (M := mX9_mostInfluentialPlot) 126 dX9_mostInfluentialPlot_59 rfl (by rw [hp]; exact Int32.le_refl _) ?_
    refine f_iload_n (M := mX9_mostInfluentialPlot) 127 dX9_mostInfluentialPlot_126 rfl rfl ?_
    refine e_ri (M := mX9_mostInfluentialPlot) dX9_mostInfluentialPlot_127 rfl (x_kk rfl) (x_kk rfl) ?_
    rfl
  | succ d ih =>
    intro k hd
    refine f_iload (M := mX9_mostInfluentialPlot) 52 dX9_mostInfluentialPlot_50 rfl rfl ?_
    refine f_aload_n (M := mX9_mostInfluentialPlot) 53 dX9_mostInfluentialPlot_52 rfl rfl ?_
    refine e_getR (M := mX9_mostInfluentialPlot) dX9_mostInfluentialPlot_53 fl_9007 (x_kk rfl) (x_kk rfl) rfl (wf_9_0 hR) ?_
    refine f_bipush (M := mX9_mostInfluentialPlot) 58 dX9_mostInfluentialPlot_56 kb_9 rfl ?_
    refine e_ild (M := mX9_mostInfluentialPlot) (w := 606) (j := 9) dX9_mostInfluentialPlot_58 (x_kk rfl) rfl kn_9 (by omega) (by omega) ?_
    refine e_icmp_geF (M := mX9_mostInfluentialPlot) 126 dX9_mostInfluentialPlot_59 rfl (by rw [hp, n_le (by omega) (by omega)]; omega) ?_
    refine f_aload_n (M := mX9_mostInfluentialPlot) 63 dX9_mostInfluentialPlot_62 rfl rfl ?_
    refine e_getR (M := mX9_mostInfluentialPlot) dX9_mostInfluentialPlot_63 fl_9007 (x_kk rfl) (x_kk rfl) rfl (wf_9_0 hR) ?_
    refine f_bipush (M := mX9_mostInfluentialPlot) 68 dX9_mostInfluentialPlot_66 kb_9 rfl ?_
    refine e_ild (M := mX9_mostInfluentialPlot) (w := 606) (j := 9) dX9_mostInfluentialPlot_68 (x_kk rfl) rfl kn_9 (by omega) (by omega) ?_
    refine f_i2l (M := mX9_mostInfluentialPlot) 70 dX9_mostInfluentialPlot_69 rfl ?_
    refine f_aload_n (M := mX9_mostInfluentialPlot) 71 dX9_mostInfluentialPlot_70 rfl rfl ?_
    refine f_iload (M := mX9_mostInfluentialPlot) 73 dX9_mostInfluentialPlot_71 rfl rfl ?_
    refine f_iload_n (M := mX9_mostInfluentialPlot) 74 dX9_mostInfluentialPlot_73 rfl rfl ?_
    refine e_cV (M := mX9_mostInfluentialPlot) [_, _] 0 0 dX9_mostInfluentialPlot_74 pa_9140 pb_9140 cc_9140 rfl rfl rfl rfl rfl (x_kk rfl) (x_kk rfl) rfl (c_X9_inPlotA hR (by omega) hσ) rfl ?_
    refine f_i2l (M := mX9_mostInfluentialPlot) 78 dX9_mostInfluentialPlot_77 rfl ?_
    refine f_lmul (M := mX9_mostInfluentialPlot) 79 dX9_mostInfluentialPlot_78 rfl ?_
    refine f_aload_n (M := mX9_mostInfluentialPlot) 80 dX9_mostInfluentialPlot_79 rfl rfl ?_
    refine f_iload_n (M := mX9_mostInfluentialPlot) 81 dX9_mostInfluentialPlot_80 rfl rfl ?_
    refine e_cV (M := mX9_mostInfluentialPlot) [_, _] 0 0 dX9_mostInfluentialPlot_81 pa_9143 pb_9143 cc_9143 rfl rfl rfl rfl rfl (x_kk rfl) (x_kk rfl) rfl (c_X9_sumOf hR hNp hp hσ) rfl ?_
    refine f_lsub (M := mX9_mostInfluentialPlot) 85 dX9_mostInfluentialPlot_84 rfl ?_
    refine f_lstore (M := mX9_mostInfluentialPlot) (ls' := [_, _, _, _, _, _, _, _]) 87 dX9_mostInfluentialPlot_85 rfl rfl rfl ?_
    refine f_lload (M := mX9_mostInfluentialPlot) 89 dX9_mostInfluentialPlot_87 rfl rfl ?_
    refine f_lconst (M := mX9_mostInfluentialPlot) 90 dX9_mostInfluentialPlot_89 kl_0 rfl ?_
    refine f_lcmp (M := mX9_mostInfluentialPlot) 91 dX9_mostInfluentialPlot_90 rfl ?_
    refine e_if_ge (M := mX9_mostInfluentialPlot) (t := 100) dX9_mostInfluentialPlot_91 rfl (fun h1 => ?_) (fun h1 => ?_)
    · refine f_lload (M := mX9_mostInfluentialPlot) 102 dX9_mostInfluentialPlot_100 rfl rfl ?_
      refine f_lstore (M := mX9_mostInfluentialPlot) (ls' := [_, _, _, _, _, _, _, _]) 104 dX9_mostInfluentialPlot_102 rfl rfl rfl ?_
      refine f_lload (M := mX9_mostInfluentialPlot) 106 dX9_mostInfluentialPlot_104 rfl rfl ?_
      refine f_lload_n (M := mX9_mostInfluentialPlot) 107 dX9_mostInfluentialPlot_106 rfl rfl ?_
      refine f_lcmp (M := mX9_mostInfluentialPlot) 108 dX9_mostInfluentialPlot_107 rfl ?_
      refine e_if_gt (M := mX9_mostInfluentialPlot) (t := 114) dX9_mostInfluentialPlot_108 rfl (fun h2 => ?_) (fun h2 => ?_)
      · refine f_iload (M := mX9_mostInfluentialPlot) 116 dX9_mostInfluentialPlot_114 rfl rfl ?_
        refine f_istore_n (M := mX9_mostInfluentialPlot) (ls' := [_, _, _, _, _, _, _, _]) 117 dX9_mostInfluentialPlot_116 rfl rfl rfl ?_
        refine f_lload (M := mX9_mostInfluentialPlot) 119 dX9_mostInfluentialPlot_117 rfl rfl ?_
        refine f_lstore_n (M := mX9_mostInfluentialPlot) (ls' := [_, _, _, _, _, _, _, _]) 120 dX9_mostInfluentialPlot_119 rfl rfl rfl ?_
        refine f_iinc (M := mX9_mostInfluentialPlot) (ls' := [_, _, _, _, _, _, _, _]) 123 dX9_mostInfluentialPlot_120 ki_1 rfl rfl rfl rfl ?_
        refine f_goto (M := mX9_mostInfluentialPlot) 50 dX9_mostInfluentialPlot_123 rfl ?_
        rw [n_inc (s := k)]; have ih1 := fun w => ih (w := w) (k + 1) (by omega); rw [show sp_inf (sp_infd (I 226) σ Np) (k + 1) = _ from inf_1 (if_pos (lc_ge.mp h1)) (fun z => absurd (lc_gt.mp h2) (l_nlt.mpr z))] at ih1; exact ih1 _
      · refine f_goto (M := mX9_mostInfluentialPlot) 120 dX9_mostInfluentialPlot_111 rfl ?_
        refine f_iinc (M := mX9_mostInfluentialPlot) (ls' := [_, _, _, _, _, _, _, _]) 123 dX9_mostInfluentialPlot_120 ki_1 rfl rfl rfl rfl ?_
        refine f_goto (M := mX9_mostInfluentialPlot) 50 dX9_mostInfluentialPlot_123 rfl ?_
        rw [n_inc (s := k)]; have ih1 := fun w => ih (w := w) (k + 1) (by omega); rw [show sp_inf (sp_infd (I 226) σ Np) (k + 1) = _ from inf_0 (if_pos (lc_ge.mp h1)) (l_nlt.mp (fun z => h2 (lc_gt.mpr z)))] at ih1; exact ih1 _
    · refine f_lload (M := mX9_mostInfluentialPlot) 96 dX9_mostInfluentialPlot_94 rfl rfl ?_
      refine f_lneg (M := mX9_mostInfluentialPlot) 97 dX9_mostInfluentialPlot_96 rfl ?_
      refine f_goto (M := mX9_mostInfluentialPlot) 102 dX9_mostInfluentialPlot_97 rfl ?_
      refine f_lstore (M := mX9_mostInfluentialPlot) (ls' := [_, _, _, _, _, _, _, _]) 104 dX9_mostInfluentialPlot_102 rfl rfl rfl ?_
      refine f_lload (M := mX9_mostInfluentialPlot) 106 dX9_mostInfluentialPlot_104 rfl rfl ?_
      refine f_lload_n (M := mX9_mostInfluentialPlot) 107 dX9_mostInfluentialPlot_106 rfl rfl ?_
      refine f_lcmp (M := mX9_mostInfluentialPlot) 108 dX9_mostInfluentialPlot_107 rfl ?_
      refine e_if_gt (M := mX9_mostInfluentialPlot) (t := 114) dX9_mostInfluentialPlot_108 rfl (fun h2 => ?_) (fun h2 => ?_)
      · refine f_iload (M := mX9_mostInfluentialPlot) 116 dX9_mostInfluentialPlot_114 rfl rfl ?_
        refine f_istore_n (M := mX9_mostInfluentialPlot) (ls' := [_, _, _, _, _, _, _, _]) 117 dX9_mostInfluentialPlot_116 rfl rfl rfl ?_
        refine f_lload (M := mX9_mostInfluentialPlot) 119 dX9_mostInfluentialPlot_117 rfl rfl ?_
        refine f_lstore_n (M := mX9_mostInfluentialPlot) (ls' := [_, _, _, _, _, _, _, _]) 120 dX9_mostInfluentialPlot_119 rfl rfl rfl ?_
        refine f_iinc (M := mX9_mostInfluentialPlot) (ls' := [_, _, _, _, _, _, _, _]) 123 dX9_mostInfluentialPlot_120 ki_1 rfl rfl rfl rfl ?_
        refine f_goto (M := mX9_mostInfluentialPlot) 50 dX9_mostInfluentialPlot_123 rfl ?_
        rw [n_inc (s := k)]; have ih1 := fun w => ih (w := w) (k + 1) (by omega); rw [show sp_inf (sp_infd (I 226) σ Np) (k + 1) = _ from inf_1 (if_neg (fun z => h1 (lc_ge.mpr z))) (fun z => absurd (lc_gt.mp h2) (l_nlt.mpr z))] at ih1; exact ih1 _
      · refine f_goto (M := mX9_mostInfluentialPlot) 120 dX9_mostInfluentialPlot_111 rfl ?_
        refine f_iinc (M := mX9_mostInfluentialPlot) (ls' := [_, _, _, _, _, _, _, _]) 123 dX9_mostInfluentialPlot_120 ki_1 rfl rfl rfl rfl ?_
        refine f_goto (M := mX9_mostInfluentialPlot) 50 dX9_mostInfluentialPlot_123 rfl ?_
        rw [n_inc (s := k)]; have ih1 := fun w => ih (w := w) (k + 1) (by omega); rw [show sp_inf (sp_infd (I 226) σ Np) (k + 1) = _ from inf_0 (if_neg (fun z => h1 (lc_ge.mpr z))) (l_nlt.mp (fun z => h2 (lc_gt.mpr z)))] at ih1; exact ih1 _
theorem mo_mostInfluentialPlot (hR : x_wf R) {Ns Np Nl Nm : Nat} (Z : y_Z (I 226) Ns Np Nl Nm) {v : Int32} (h0 : v = -1 ∨ (0 ≤ v ∧ v ≤ I 226 8 - 1)) (h1 : 2 ≤ I 226 9)  : x_Cv X mX9_mostInfluentialPlot [.ref 225, .int v] (I, L, R) 233 (.inl (some (.int (Int32.ofNat (sp_inf (sp_infd (I 226) v Np) Np).1))), (x_tw I 0, L, R), 233) := by
  obtain ⟨hNs, hn, hNp, hp, hNl, hl, hNm, hmm⟩ := Z
  have hσ := sp_of hNs hn h0
  show x_Ev X mX9_mostInfluentialPlot 0 [some (.ref 225), some (.int v), none, none, none, none, none, none] [] ((I, L, R), 233, 0, 0) _
  refine f_aload_n (M := mX9_mostInfluentialPlot) 1 dX9_mostInfluentialPlot_0 rfl rfl ?_
  refine f_aload_n (M := mX9_mostInfluentialPlot) 2 dX9_mostInfluentialPlot_1 rfl rfl ?_
  refine f_iload_n (M := mX9_mostInfluentialPlot) 3 dX9_mostInfluentialPlot_2 rfl rfl ?_
  refine e_cV (M := mX9_mostInfluentialPlot) [_, _] 0 0 dX9_mostInfluentialPlot_3 pa_9151 pb_9151 cc_9151 rfl rfl rfl rfl rfl (x_kk rfl) (x_kk rfl) rfl (c_X9_isAny hR) rfl ?_
  refine e_if_neT (M := mX9_mostInfluentialPlot) 13 dX9_mostInfluentialPlot_6 rfl (x_bn h0) ?_
  refine f_aload_n (M := mX9_mostInfluentialPlot) 14 dX9_mostInfluentialPlot_13 rfl rfl ?_
  refine e_getR (M := mX9_mostInfluentialPlot) dX9_mostInfluentialPlot_14 fl_9007 (x_kk rfl) (x_kk rfl) rfl (wf_9_0 hR) ?_
  refine f_bipush (M := mX9_mostInfluentialPlot) 19 dX9_mostInfluentialPlot_17 kb_9 rfl ?_
  refine e_ild (M := mX9_mostInfluentialPlot) (w := 606) (j := 9) dX9_mostInfluentialPlot_19 (x_kk rfl) rfl kn_9 (by omega) (by omega) ?_
  refine f_iconst (M := mX9_mostInfluentialPlot) 21 dX9_mostInfluentialPlot_20 ki_2 rfl ?_
  refine e_icmp_geT (M := mX9_mostInfluentialPlot) 28 dX9_mostInfluentialPlot_21 rfl h1 ?_
  refine f_iconst (M := mX9_mostInfluentialPlot) 29 dX9_mostInfluentialPlot_28 ki_0 rfl ?_
  refine e_putI (M := mX9_mostInfluentialPlot) dX9_mostInfluentialPlot_29 fl_9033 (x_kk rfl) (x_kk rfl) rfl (fun q9 => Bool.noConfusion q9) ?_
  refine f_aload_n (M := mX9_mostInfluentialPlot) 33 dX9_mostInfluentialPlot_32 rfl rfl ?_
  refine e_getI (M := mX9_mostInfluentialPlot) dX9_mostInfluentialPlot_33 fl_9033 (x_kk rfl) (x_kk rfl) rfl ?_
  refine e_if_leT (M := mX9_mostInfluentialPlot) 41 dX9_mostInfluentialPlot_36 rfl (show (0 : Int32) ≤ 0 by decide) ?_
  refine f_iconst (M := mX9_mostInfluentialPlot) 42 dX9_mostInfluentialPlot_41 ki_0 rfl ?_
  refine f_istore_n (M := mX9_mostInfluentialPlot) (ls' := [_, _, _, _, _, _, _, _]) 43 dX9_mostInfluentialPlot_42 rfl rfl rfl ?_
  refine f_ldc2 (M := mX9_mostInfluentialPlot) 46 dX9_mostInfluentialPlot_43 (x_kk rfl) csl_9168 rfl ?_
  refine f_lstore_n (M := mX9_mostInfluentialPlot) (ls' := [_, _, _, _, _, _, _, _]) 47 dX9_mostInfluentialPlot_46 rfl rfl rfl ?_
  refine f_iconst (M := mX9_mostInfluentialPlot) 48 dX9_mostInfluentialPlot_47 ki_0 rfl ?_
  refine f_istore (M := mX9_mostInfluentialPlot) (ls' := [_, _, _, _, _, _, _, _]) 50 dX9_mostInfluentialPlot_48 rfl rfl rfl ?_
  exact l_X9_mostInfluentialPlot (I := x_tw I 0) hR hNp hp hσ Np 0 (by omega)
theorem sim_mostInfluentialPlot (T : y_T N I L R) {v : Int32} : y_OI N X mL_mostInfluentialPlot [.ref 0, .int v, .ref 232] mX9_mostInfluentialPlot [.ref 225, .int v] I L R := by
  have T0 := T
  obtain ⟨a, b, kn, ks, bf, bn, ep, ⟨β, δ, γ, ν, hB⟩, hM, hI⟩ := T
  have H : y_CS N I L R β a b := ⟨hM.1, hB.1.2.1, hB.1.2.2.2.2.1, hB.2.2.2.2.2.1, hI.1⟩
  obtain ⟨Ns, Np, Nl, Nm, Z⟩ := Z_of hI.1
  have hR := hM.1
  have ha : I 226 = a := hM.2.1
  have hb : L 229 = b := hM.2.2.1
  subst ha
  subst hb
  obtain ⟨hNs, hn, hNp, hp, hNl, hl, hNm, hmm⟩ := id Z
  by_cases h0 : v = -1 ∨ (0 ≤ v ∧ v ≤ I 226 8 - 1)
  · skip
    by_cases h1 : 2 ≤ I 226 9
    · skip
      exact OI_q T0 (w_mostInfluentialPlot (ko_mostInfluentialPlot H Z h0 h1)) (mo_mostInfluentialPlot hR Z h0 h1)
    · exact OI_x T0 (by decide) (w_mostInfluentialPlot_x0 (kf_mostInfluentialPlot_1 H Z h0 h1)) (mf_mostInfluentialPlot_1 hR Z h0 h1)
  · exact OI_x T0 (by decide) (w_mostInfluentialPlot_x2 (kf_mostInfluentialPlot_0 H Z h0)) (mf_mostInfluentialPlot_0 hR Z h0)
theorem l_X9_rank (hR : x_wf R) {q : Nat} (hq : q < 8) {Ns : Nat} (hNs : Ns ≤ 6) (hn : I 226 8 = Int32.ofNat Ns) : ∀ d k, k + d = 8 → x_Ev X mX9_rank 30 [some (.ref 225), some (.int (Int32.ofNat q)), some (.int (Int32.ofNat (x_cnt (fun k => (¬ k = q ∧ sp_prob (I 226) k Ns = 0) ∧ sp_bef (I 226) k q (-1) 100 Ns) k + 1))), some (.int (Int32.ofNat k))] [] ((I, L, R), 233, 0, 0) (.inl (some (.int (Int32.ofNat (x_cnt (fun k => (¬ k = q ∧ sp_prob (I 226) k Ns = 0) ∧ sp_bef (I 226) k q (-1) 100 Ns) 8 + 1)))), (I, L, R), 233) := by
  intro d
  induction d with
  | zero =>
    intro k hd
    obtain rfl : 8 = k := by omega
    refine f_iload_n (M := mX9_rank) 31 dX9_rank_30 rfl rfl ?_
    refine f_bipush (M := mX9_rank) 33 dX9_rank_31 kb_8 rfl ?_
    refine e_icmp_geT (M := mX9_rank) 75 dX9_rank_33 rfl (by decide) ?_
    refine f_iload_n (M := mX9_rank) 76 dX9_rank_75 rfl rfl ?_
    refine e_ri (M := mX9_rank) dX9_rank_76 rfl (x_kk rfl) (x_kk rfl) ?_
    rfl
  | succ d ih =>
    intro k hd
    refine f_iload_n (M := mX9_rank) 31 dX9_rank_30 rfl rfl ?_
    refine f_bipush (M := mX9_rank) 33 dX9_rank_31 kb_8 rfl ?_
    refine e_icmp_geF (M := mX9_rank) 75 dX9_rank_33 rfl (by rw [kn_8, n_le (by omega) (by omega)]; omega) ?_
    refine f_iload_n (M := mX9_rank) 37 dX9_rank_36 rfl rfl ?_
    refine f_iload_n (M := mX9_rank) 38 dX9_rank_37 rfl rfl ?_
    refine f_iload_n (M := mX9_rank) 39 dX9_rank_38 rfl rfl ?_
    refine e_icmp_eq (M := mX9_rank) (t := 66) dX9_rank_39 rfl (fun h0 => ?_) (fun h0 => ?_)
    · refine f_iconst (M := mX9_rank) 67 dX9_rank_66 ki_0 rfl ?_
      refine f_iadd (M := mX9_rank) 68 dX9_rank_67 rfl ?_
      refine f_istore_n (M := mX9_rank) (ls' := [_, _, _, _]) 69 dX9_rank_68 rfl rfl rfl ?_
      refine f_iinc (M := mX9_rank) (ls' := [_, _, _, _]) 72 dX9_rank_69 ki_1 rfl rfl rfl rfl ?_
      refine f_goto (M := mX9_rank) 30 dX9_rank_72 rfl ?_
      rw [n_inc (s := k), Int32.add_zero]; have ih1 := ih (k + 1) (by omega); rw [show x_cnt (fun k => (¬ k = q ∧ sp_prob (I 226) k Ns = 0) ∧ sp_bef (I 226) k q (-1) 100 Ns) (k + 1) = _ from x_cnt_0 (fun z => z.1.1 ((n_eq (by omega) (by omega)).mp h0))] at ih1; exact ih1
    · refine f_aload_n (M := mX9_rank) 43 dX9_rank_42 rfl rfl ?_
      refine f_iload_n (M := mX9_rank) 44 dX9_rank_43 rfl rfl ?_
      refine e_cV (M := mX9_rank) [_, _] 0 0 dX9_rank_44 pa_9202 pb_9202 cc_9202 rfl rfl rfl rfl rfl (x_kk rfl) (x_kk rfl) rfl (c_X9_problemOf hR hNs hn (by omega)) rfl ?_
      refine e_if_ne (M := mX9_rank) (t := 66) dX9_rank_47 rfl (fun h1 => ?_) (fun h1 => ?_)
      · refine f_iconst (M := mX9_rank) 67 dX9_rank_66 ki_0 rfl ?_
        refine f_iadd (M := mX9_rank) 68 dX9_rank_67 rfl ?_
        refine f_istore_n (M := mX9_rank) (ls' := [_, _, _, _]) 69 dX9_rank_68 rfl rfl rfl ?_
        refine f_iinc (M := mX9_rank) (ls' := [_, _, _, _]) 72 dX9_rank_69 ki_1 rfl rfl rfl rfl ?_
        refine f_goto (M := mX9_rank) 30 dX9_rank_72 rfl ?_
        rw [n_inc (s := k), Int32.add_zero]; have ih1 := ih (k + 1) (by omega); rw [show x_cnt (fun k => (¬ k = q ∧ sp_prob (I 226) k Ns = 0) ∧ sp_bef (I 226) k q (-1) 100 Ns) (k + 1) = _ from x_cnt_0 (fun z => h1 z.1.2)] at ih1; exact ih1
      · refine f_aload_n (M := mX9_rank) 51 dX9_rank_50 rfl rfl ?_
        refine f_iload_n (M := mX9_rank) 52 dX9_rank_51 rfl rfl ?_
        refine f_iload_n (M := mX9_rank) 53 dX9_rank_52 rfl rfl ?_
        refine f_iconst (M := mX9_rank) 54 dX9_rank_53 ki_m1 rfl ?_
        refine f_bipush (M := mX9_rank) 56 dX9_rank_54 kb_100 rfl ?_
        refine e_cV (M := mX9_rank) [_, _] 0 0 dX9_rank_56 pa_9211 pb_9211 cc_9211 rfl rfl rfl rfl rfl (x_kk rfl) (x_kk rfl) rfl (c_X9_isBefore (σ := -1) (h := 100) hR hNs hn (by omega) hq) rfl ?_
        refine e_if_eq (M := mX9_rank) (t := 66) dX9_rank_59 rfl (fun h2 => ?_) (fun h2 => ?_)
        · refine f_iconst (M := mX9_rank) 67 dX9_rank_66 ki_0 rfl ?_
          refine f_iadd (M := mX9_rank) 68 dX9_rank_67 rfl ?_
          refine f_istore_n (M := mX9_rank) (ls' := [_, _, _, _]) 69 dX9_rank_68 rfl rfl rfl ?_
          refine f_iinc (M := mX9_rank) (ls' := [_, _, _, _]) 72 dX9_rank_69 ki_1 rfl rfl rfl rfl ?_
          refine f_goto (M := mX9_rank) 30 dX9_rank_72 rfl ?_
          rw [n_inc (s := k), Int32.add_zero]; have ih1 := ih (k + 1) (by omega); rw [show x_cnt (fun k => (¬ k = q ∧ sp_prob (I 226) k Ns = 0) ∧ sp_bef (I 226) k q (-1) 100 Ns) (k + 1) = _ from x_cnt_0 (fun z => x_bF h2 z.2)] at ih1; exact ih1
        · refine f_iconst (M := mX9_rank) 63 dX9_rank_62 ki_1 rfl ?_
          refine f_goto (M := mX9_rank) 67 dX9_rank_63 rfl ?_
          refine f_iadd (M := mX9_rank) 68 dX9_rank_67 rfl ?_
          refine f_istore_n (M := mX9_rank) (ls' := [_, _, _, _]) 69 dX9_rank_68 rfl rfl rfl ?_
          refine f_iinc (M := mX9_rank) (ls' := [_, _, _, _]) 72 dX9_rank_69 ki_1 rfl rfl rfl rfl ?_
          refine f_goto (M := mX9_rank) 30 dX9_rank_72 rfl ?_
          rw [n_inc (s := k), n_inc (s := x_cnt (fun k => (¬ k = q ∧ sp_prob (I 226) k Ns = 0) ∧ sp_bef (I 226) k q (-1) 100 Ns) k + 1)]; have ih1 := ih (k + 1) (by omega); rw [show x_cnt (fun k => (¬ k = q ∧ sp_prob (I 226) k Ns = 0) ∧ sp_bef (I 226) k q (-1) 100 Ns) (k + 1) = _ from x_cnt_1 ⟨⟨fun z => h0 (by rw [z]), x_dn h1⟩, x_bT h2⟩] at ih1; exact ih1
theorem mo_rank_1 (hR : x_wf R) {Ns Np Nl Nm : Nat} (Z : y_Z (I 226) Ns Np Nl Nm) {q : Nat} (hq : q < 8) (h1 : 1 < I 226 0 ∧ ¬ I 226 0 = 6) (h : sp_prob (I 226) q Ns = 0) : x_Cv X mX9_rank [.ref 225, .int (Int32.ofNat q)] (I, L, R) 233 (.inl (some (.int (Int32.ofNat (x_cnt (fun k => (¬ k = q ∧ sp_prob (I 226) k Ns = 0) ∧ sp_bef (I 226) k q (-1) 100 Ns) 8 + 1)))), (x_tw I 0, L, R), 233) := by
  obtain ⟨hNs, hn, hNp, hp, hNl, hl, hNm, hmm⟩ := Z
  show x_Ev X mX9_rank 0 [some (.ref 225), some (.int (Int32.ofNat q)), none, none] [] ((I, L, R), 233, 0, 0) _
  refine f_aload_n (M := mX9_rank) 1 dX9_rank_0 rfl rfl ?_
  refine f_aload_n (M := mX9_rank) 2 dX9_rank_1 rfl rfl ?_
  refine f_iload_n (M := mX9_rank) 3 dX9_rank_2 rfl rfl ?_
  refine e_cV (M := mX9_rank) [_, _] 0 0 dX9_rank_3 pa_9218 pb_9218 cc_9218 rfl rfl rfl rfl rfl (x_kk rfl) (x_kk rfl) rfl (c_X9_bidRefusal_0 hR hq h1) rfl ?_
  refine e_putI (M := mX9_rank) dX9_rank_6 fl_9033 (x_kk rfl) (x_kk rfl) rfl (fun q9 => Bool.noConfusion q9) ?_
  refine f_aload_n (M := mX9_rank) 10 dX9_rank_9 rfl rfl ?_
  refine e_getI (M := mX9_rank) dX9_rank_10 fl_9033 (x_kk rfl) (x_kk rfl) rfl ?_
  refine e_if_gtF (M := mX9_rank) 24 dX9_rank_13 rfl (show ¬ ((0 : Int32) < 0) by decide) ?_
  refine f_aload_n (M := mX9_rank) 17 dX9_rank_16 rfl rfl ?_
  refine f_iload_n (M := mX9_rank) 18 dX9_rank_17 rfl rfl ?_
  refine e_cV (M := mX9_rank) [_] 0 0 dX9_rank_18 pa_9202 pb_9202 cc_9202 rfl rfl rfl rfl rfl (x_kk rfl) (x_kk rfl) rfl (c_X9_problemOf (I := x_tw I 0) hR hNs hn hq) rfl ?_
  refine e_if_eqT (M := mX9_rank) 26 dX9_rank_21 rfl h ?_
  refine f_iconst (M := mX9_rank) 27 dX9_rank_26 ki_1 rfl ?_
  refine f_istore_n (M := mX9_rank) (ls' := [_, _, _, _]) 28 dX9_rank_27 rfl rfl rfl ?_
  refine f_iconst (M := mX9_rank) 29 dX9_rank_28 ki_0 rfl ?_
  refine f_istore_n (M := mX9_rank) (ls' := [_, _, _, _]) 30 dX9_rank_29 rfl rfl rfl ?_
  exact l_X9_rank (I := x_tw I 0) hR hq hNs hn 8 0 rfl
theorem mo_rank_0 (hR : x_wf R) {Ns Np Nl Nm : Nat} (Z : y_Z (I 226) Ns Np Nl Nm) {q : Nat} (hq : q < 8) (h1 : 1 < I 226 0 ∧ ¬ I 226 0 = 6) (h : ¬ sp_prob (I 226) q Ns = 0) : x_Cv X mX9_rank [.ref 225, .int (Int32.ofNat q)] (I, L, R) 233 (.inl (some (.int (0))), (x_tw I 0, L, R), 233) := by
  obtain ⟨hNs, hn, hNp, hp, hNl, hl, hNm, hmm⟩ := Z
  show x_Ev X mX9_rank 0 [some (.ref 225), some (.int (Int32.ofNat q)), none, none] [] ((I, L, R), 233, 0, 0) _
  refine f_aload_n (M := mX9_rank) 1 dX9_rank_0 rfl rfl ?_
  refine f_aload_n (M := mX9_rank) 2 dX9_rank_1 rfl rfl ?_
  refine f_iload_n (M := mX9_rank) 3 dX9_rank_2 rfl rfl ?_
  refine e_cV (M := mX9_rank) [_, _] 0 0 dX9_rank_3 pa_9218 pb_9218 cc_9218 rfl rfl rfl rfl rfl (x_kk rfl) (x_kk rfl) rfl (c_X9_bidRefusal_0 hR hq h1) rfl ?_
  refine e_putI (M := mX9_rank) dX9_rank_6 fl_9033 (x_kk rfl) (x_kk rfl) rfl (fun q9 => Bool.noConfusion q9) ?_
  refine f_aload_n (M := mX9_rank) 10 dX9_rank_9 rfl rfl ?_
  refine e_getI (M := mX9_rank) dX9_rank_10 fl_9033 (x_kk rfl) (x_kk rfl) rfl ?_
  refine e_if_gtF (M := mX9_rank) 24 dX9_rank_13 rfl (show ¬ ((0 : Int32) < 0) by decide) ?_
  refine f_aload_n (M := mX9_rank) 17 dX9_rank_16 rfl rfl ?_
  refine f_iload_n (M := mX9_rank) 18 dX9_rank_17 rfl rfl ?_
  refine e_cV (M := mX9_rank) [_] 0 0 dX9_rank_18 pa_9202 pb_9202 cc_9202 rfl rfl rfl rfl rfl (x_kk rfl) (x_kk rfl) rfl (c_X9_problemOf (I := x_tw I 0) hR hNs hn hq) rfl ?_
  refine e_if_eqF (M := mX9_rank) 26 dX9_rank_21 rfl h ?_
  refine f_iconst (M := mX9_rank) 25 dX9_rank_24 ki_0 rfl ?_
  refine e_ri (M := mX9_rank) dX9_rank_25 rfl (x_kk rfl) (x_kk rfl) ?_
  rfl
theorem ko_rank_1 {N β : Nat} {a : Nat → Int32} {b : Nat → Int64} (H : y_CS N I L R β a b) {Ns Np Nl Nm : Nat} (Z : y_Z a Ns Np Nl Nm) {q : Nat} (hq : q < 8) (h1 : 1 < a 0 ∧ ¬ a 0 = 6) (h : sp_prob a q Ns = 0) : x_Cv X mX8_rank [.ref 0, .int (Int32.ofNat q)] (I, L, R) 233 (.inl (some (.int (Int32.ofNat (x_cnt (fun k => (¬ k = q ∧ sp_prob a k Ns = 0) ∧ sp_bef a k q (-1) 100 Ns) 8 + 1)))), (I, L, R), 233) := by
  obtain ⟨hNs, hn, hNp, hp, hNl, hl, hNm, hmm⟩ := Z
  have hR := h_R H
  have hβ := h_β H
  have hS := h_S H
  show x_Ev X mX8_rank 0 [some (.ref 0), some (.int (Int32.ofNat q))] [] ((I, L, R), 233, 0, 0) _
  refine f_iload_n (M := mX8_rank) 1 dX8_rank_0 rfl rfl ?_
  refine e_cS (M := mX8_rank) [_] 0 0 dX8_rank_1 pa_8164 cc_8164 rfl rfl rfl rfl rfl (x_kk rfl) (x_kk rfl) rfl (c_X8_isBidder) rfl ?_
  refine e_cS (M := mX8_rank) [] 1 6 dX8_rank_4 pa_8103 cc_8103 rfl rfl rfl rfl rfl (x_kk rfl) (x_kk rfl) rfl (c_X8_requireExisting (x_bn (ib_ok kn_7 (by omega) (by omega)))) rfl ?_
  refine f_aload_n (M := mX8_rank) 8 dX8_rank_7 rfl rfl ?_
  refine e_getR (M := mX8_rank) dX8_rank_8 fl_8026 (x_kk rfl) (x_kk rfl) rfl hS ?_
  refine e_cV (M := mX8_rank) [_] 1 6 dX8_rank_11 pa_8195 pb_8195 cc_8195 rfl rfl rfl rfl rfl (x_kk rfl) (x_kk rfl) (x_rcvOK (sl_lt hβ 0 rfl) (sl_s hβ 0 rfl rfl) rfl) (k_hasOpenBids H) rfl ?_
  refine e_cS (M := mX8_rank) [] 2 12 dX8_rank_14 pa_8037 cc_8037 rfl rfl rfl rfl rfl (x_kk rfl) (x_kk rfl) rfl (c_X8_requireState (x_bn h1)) rfl ?_
  refine f_aload_n (M := mX8_rank) 18 dX8_rank_17 rfl rfl ?_
  refine e_getR (M := mX8_rank) dX8_rank_18 fl_8026 (x_kk rfl) (x_kk rfl) rfl hS ?_
  refine e_getR (M := mX8_rank) dX8_rank_21 fl_8148 (x_kk rfl) (sl_lt hβ 0 rfl) (sl_s hβ 0 rfl rfl) (wf_6_3 hR hβ) ?_
  refine f_iload_n (M := mX8_rank) 25 dX8_rank_24 rfl rfl ?_
  refine f_aload_n (M := mX8_rank) 26 dX8_rank_25 rfl rfl ?_
  refine e_getR (M := mX8_rank) dX8_rank_26 fl_8026 (x_kk rfl) (x_kk rfl) rfl hS ?_
  refine e_getR (M := mX8_rank) dX8_rank_29 fl_8083 (x_kk rfl) (sl_lt hβ 0 rfl) (sl_s hβ 0 rfl rfl) (wf_6_1 hR hβ) ?_
  refine e_cV (M := mX8_rank) [_] 2 12 dX8_rank_32 pa_8205 pb_8205 cc_8205 rfl rfl rfl rfl rfl (x_kk rfl) (x_kk rfl) (x_rcvOK (sl_lt hβ 7 rfl) (sl_s hβ 7 rfl rfl) rfl) (k_rankOf_1 H hq hNs hn h) rfl ?_
  refine e_ri (M := mX8_rank) dX8_rank_35 rfl (x_kk rfl) (x_kk rfl) ?_
  rfl
theorem ko_rank_0 {N β : Nat} {a : Nat → Int32} {b : Nat → Int64} (H : y_CS N I L R β a b) {Ns Np Nl Nm : Nat} (Z : y_Z a Ns Np Nl Nm) {q : Nat} (hq : q < 8) (h1 : 1 < a 0 ∧ ¬ a 0 = 6) (h : ¬ sp_prob a q Ns = 0) : x_Cv X mX8_rank [.ref 0, .int (Int32.ofNat q)] (I, L, R) 233 (.inl (some (.int (0))), (I, L, R), 233) := by
  obtain ⟨hNs, hn, hNp, hp, hNl, hl, hNm, hmm⟩ := Z
  have hR := h_R H
  have hβ := h_β H
  have hS := h_S H
  show x_Ev X mX8_rank 0 [some (.ref 0), some (.int (Int32.ofNat q))] [] ((I, L, R), 233, 0, 0) _
  refine f_iload_n (M := mX8_rank) 1 dX8_rank_0 rfl rfl ?_
  refine e_cS (M := mX8_rank) [_] 0 0 dX8_rank_1 pa_8164 cc_8164 rfl rfl rfl rfl rfl (x_kk rfl) (x_kk rfl) rfl (c_X8_isBidder) rfl ?_
  refine e_cS (M := mX8_rank) [] 1 6 dX8_rank_4 pa_8103 cc_8103 rfl rfl rfl rfl rfl (x_kk rfl) (x_kk rfl) rfl (c_X8_requireExisting (x_bn (ib_ok kn_7 (by omega) (by omega)))) rfl ?_
  refine f_aload_n (M := mX8_rank) 8 dX8_rank_7 rfl rfl ?_
  refine e_getR (M := mX8_rank) dX8_rank_8 fl_8026 (x_kk rfl) (x_kk rfl) rfl hS ?_
  refine e_cV (M := mX8_rank) [_] 1 6 dX8_rank_11 pa_8195 pb_8195 cc_8195 rfl rfl rfl rfl rfl (x_kk rfl) (x_kk rfl) (x_rcvOK (sl_lt hβ 0 rfl) (sl_s hβ 0 rfl rfl) rfl) (k_hasOpenBids H) rfl ?_
  refine e_cS (M := mX8_rank) [] 2 12 dX8_rank_14 pa_8037 cc_8037 rfl rfl rfl rfl rfl (x_kk rfl) (x_kk rfl) rfl (c_X8_requireState (x_bn h1)) rfl ?_
  refine f_aload_n (M := mX8_rank) 18 dX8_rank_17 rfl rfl ?_
  refine e_getR (M := mX8_rank) dX8_rank_18 fl_8026 (x_kk rfl) (x_kk rfl) rfl hS ?_
  refine e_getR (M := mX8_rank) dX8_rank_21 fl_8148 (x_kk rfl) (sl_lt hβ 0 rfl) (sl_s hβ 0 rfl rfl) (wf_6_3 hR hβ) ?_
  refine f_iload_n (M := mX8_rank) 25 dX8_rank_24 rfl rfl ?_
  refine f_aload_n (M := mX8_rank) 26 dX8_rank_25 rfl rfl ?_
  refine e_getR (M := mX8_rank) dX8_rank_26 fl_8026 (x_kk rfl) (x_kk rfl) rfl hS ?_
  refine e_getR (M := mX8_rank) dX8_rank_29 fl_8083 (x_kk rfl) (sl_lt hβ 0 rfl) (sl_s hβ 0 rfl rfl) (wf_6_1 hR hβ) ?_
  refine e_cV (M := mX8_rank) [_] 2 12 dX8_rank_32 pa_8205 pb_8205 cc_8205 rfl rfl rfl rfl rfl (x_kk rfl) (x_kk rfl) (x_rcvOK (sl_lt hβ 7 rfl) (sl_s hβ 7 rfl rfl) rfl) (k_rankOf_0 H hq hNs hn h) rfl ?_
  refine e_ri (M := mX8_rank) dX8_rank_35 rfl (x_kk rfl) (x_kk rfl) ?_
  rfl
theorem sim_rank (T : y_T N I L R) {u : Int32} : y_OI N X mL_rank [.ref 0, .int u, .ref 232] mX9_rank [.ref 225, .int u] I L R := by
  have T0 := T
  obtain ⟨a, b, kn, ks, bf, bn, ep, ⟨β, δ, γ, ν, hB⟩, hM, hI⟩ := T
  have H : y_CS N I L R β a b := ⟨hM.1, hB.1.2.1, hB.1.2.2.2.2.1, hB.2.2.2.2.2.1, hI.1⟩
  obtain ⟨Ns, Np, Nl, Nm, Z⟩ := Z_of hI.1
  have hR := hM.1
  have ha : I 226 = a := hM.2.1
  have hb : L 229 = b := hM.2.2.1
  subst ha
  subst hb
  obtain ⟨hNs, hn, hNp, hp, hNl, hl, hNm, hmm⟩ := id Z
  by_cases h0 : 0 ≤ u ∧ u ≤ 7
  · obtain ⟨q, hq, rfl⟩ := ib_of kn_7 (by omega) h0
    replace hq : q < 8 := by omega
    by_cases h1 : 1 < I 226 0 ∧ ¬ I 226 0 = 6
    · skip
      by_cases h : sp_prob (I 226) q Ns = 0
      · exact OI_q T0 (w_rank (ko_rank_1 H Z hq h1 h)) (mo_rank_1 hR Z hq h1 h)
      · exact OI_q T0 (w_rank (ko_rank_0 H Z hq h1 h)) (mo_rank_0 hR Z hq h1 h)
    · exact OI_x T0 (by decide) (w_rank_x0 (kf_rank_1 H Z hq h1)) (mf_rank_1 hR Z hq h1)
  · exact OI_x T0 (by decide) (w_rank_x2 (kf_rank_0 H Z h0)) (mf_rank_0 hR Z h0)
theorem fac_g {a : Nat → Int32} (hI : y_IL a) {n : Nat} (hn : n ≤ 60) (h14 : a 14 = Int32.ofNat n) : x_gst 100 (sp_fC a n) (sp_fB a n) ∧ ¬ x_gcd 100 (sp_fC a n) (sp_fB a n) = 0 := by
  have b1 := bd_fB hI hn h14
  have b2 := bd_cs hI hn h14 (w := 3) (Or.inr rfl)
  refine gcd_ok ?_ b1.1 (by omega)
  unfold sp_fC
  by_cases h : sp_keeps a n
  · rw [if_pos h]; omega
  · rw [if_neg h]; decide
theorem ko_factor {N β : Nat} {a : Nat → Int32} {b : Nat → Int64} (H : y_CS N I L R β a b) {Ns Np Nl Nm : Nat} (Z : y_Z a Ns Np Nl Nm) {d : Int32} : x_Cv X mX8_factor [.ref 0, .int d] (I, L, R) 233 (.inl (some (.int (((if d = 0 then sp_fC a Nl else sp_fB a Nl) / x_gcd 100 (sp_fC a Nl) (sp_fB a Nl)).toInt32))), (I, L, R), 233) := by
  obtain ⟨hNs, hn, hNp, hp, hNl, hl, hNm, hmm⟩ := Z
  have hR := h_R H
  have hβ := h_β H
  have hS := h_S H
  show x_Ev X mX8_factor 0 [some (.ref 0), some (.int d), none, none, none] [] ((I, L, R), 233, 0, 0) _
  refine f_aload_n (M := mX8_factor) 1 dX8_factor_0 rfl rfl ?_
  refine e_getR (M := mX8_factor) dX8_factor_1 fl_8026 (x_kk rfl) (x_kk rfl) rfl hS ?_
  refine e_getR (M := mX8_factor) dX8_factor_4 fl_8083 (x_kk rfl) (sl_lt hβ 0 rfl) (sl_s hβ 0 rfl rfl) (wf_6_1 hR hβ) ?_
  refine e_getR (M := mX8_factor) dX8_factor_7 fl_8087 (x_kk rfl) (sl_lt hβ 1 rfl) (sl_s hβ 1 rfl rfl) (wf_7_1 hR hβ) ?_
  refine f_iconst (M := mX8_factor) 11 dX8_factor_10 ki_4 rfl ?_
  refine e_ild (M := mX8_factor) (w := 7) (j := 4) dX8_factor_11 (sl_lt hβ 2 rfl) (sl_shp hβ 2 rfl) kn_4 (by omega) (by omega) ?_
  refine f_istore_n (M := mX8_factor) (ls' := [_, _, _, _, _]) 13 dX8_factor_12 rfl rfl rfl ?_
  refine f_aload_n (M := mX8_factor) 14 dX8_factor_13 rfl rfl ?_
  refine e_getR (M := mX8_factor) dX8_factor_14 fl_8026 (x_kk rfl) (x_kk rfl) rfl hS ?_
  refine e_getR (M := mX8_factor) dX8_factor_17 fl_8245 (x_kk rfl) (sl_lt hβ 0 rfl) (sl_s hβ 0 rfl rfl) (wf_6_5 hR hβ) ?_
  refine f_iload_n (M := mX8_factor) 21 dX8_factor_20 rfl rfl ?_
  refine e_cV (M := mX8_factor) [_] 0 0 dX8_factor_21 pa_8289 pb_8289 cc_8289 rfl rfl rfl rfl rfl (x_kk rfl) (x_kk rfl) (x_rcvOK (sl_lt hβ 17 rfl) (sl_s hβ 17 rfl rfl) rfl) (k_factorDividend H hNl hl) rfl ?_
  refine f_lstore_n (M := mX8_factor) (ls' := [_, _, _, _, _]) 25 dX8_factor_24 rfl rfl rfl ?_
  refine f_lload_n (M := mX8_factor) 26 dX8_factor_25 rfl rfl ?_
  refine f_aload_n (M := mX8_factor) 27 dX8_factor_26 rfl rfl ?_
  refine e_getR (M := mX8_factor) dX8_factor_27 fl_8026 (x_kk rfl) (x_kk rfl) rfl hS ?_
  refine e_getR (M := mX8_factor) dX8_factor_30 fl_8245 (x_kk rfl) (sl_lt hβ 0 rfl) (sl_s hβ 0 rfl rfl) (wf_6_5 hR hβ) ?_
  refine f_iload_n (M := mX8_factor) 34 dX8_factor_33 rfl rfl ?_
  refine e_cV (M := mX8_factor) [_, _] 0 0 dX8_factor_34 pa_8292 pb_8292 cc_8292 rfl rfl rfl rfl rfl (x_kk rfl) (x_kk rfl) (x_rcvOK (sl_lt hβ 17 rfl) (sl_s hβ 17 rfl rfl) rfl) (k_factorDivisor H hNl hl) rfl ?_
  refine f_iload_n (M := mX8_factor) 38 dX8_factor_37 rfl rfl ?_
  refine e_cS (M := mX8_factor) [_] 0 0 dX8_factor_38 pa_8117 cc_8117 rfl rfl rfl rfl rfl (x_kk rfl) (x_kk rfl) rfl (c_X8_lowestTerms (fac_g (h_IL H) hNl hl).2) rfl ?_
  refine f_l2i (M := mX8_factor) 42 dX8_factor_41 rfl ?_
  refine e_ri (M := mX8_factor) dX8_factor_42 rfl (x_kk rfl) (x_kk rfl) ?_
  rfl
theorem mo_factor (hR : x_wf R) {Ns Np Nl Nm : Nat} (Z : y_Z (I 226) Ns Np Nl Nm) {d : Int32} (hIL : y_IL (I 226)) : x_Cv X mX9_factor [.ref 225, .int d] (I, L, R) 233 (.inl (some (.int (((if d = 0 then sp_fC (I 226) Nl else sp_fB (I 226) Nl) / x_gcd 100 (sp_fC (I 226) Nl) (sp_fB (I 226) Nl)).toInt32))), (x_tw I 0, x_facF L (I 226) Nl, R), 233) := by
  obtain ⟨hNs, hn, hNp, hp, hNl, hl, hNm, hmm⟩ := Z
  show x_Ev X mX9_factor 0 [some (.ref 225), some (.int d)] [] ((I, L, R), 233, 0, 0) _
  refine f_aload_n (M := mX9_factor) 1 dX9_factor_0 rfl rfl ?_
  refine f_iconst (M := mX9_factor) 2 dX9_factor_1 ki_0 rfl ?_
  refine e_putI (M := mX9_factor) dX9_factor_2 fl_9033 (x_kk rfl) (x_kk rfl) rfl (fun q9 => Bool.noConfusion q9) ?_
  refine f_aload_n (M := mX9_factor) 6 dX9_factor_5 rfl rfl ?_
  refine e_cV (M := mX9_factor) [] 0 0 dX9_factor_6 pa_9275 pb_9275 cc_9275 rfl rfl rfl rfl rfl (x_kk rfl) (x_kk rfl) rfl (c_X9_laysFactor (I := x_tw I 0) hR hNl hl) rfl ?_
  refine f_aload_n (M := mX9_factor) 10 dX9_factor_9 rfl rfl ?_
  refine e_getL (M := mX9_factor) dX9_factor_10 fl_9272 (x_kk rfl) (x_kk rfl) rfl ?_
  refine f_aload_n (M := mX9_factor) 14 dX9_factor_13 rfl rfl ?_
  refine e_getL (M := mX9_factor) dX9_factor_14 fl_9269 (x_kk rfl) (x_kk rfl) rfl ?_
  refine f_iload_n (M := mX9_factor) 18 dX9_factor_17 rfl rfl ?_
  refine e_cS (M := mX9_factor) [_] 0 0 dX9_factor_18 pa_9154 cc_9154 rfl rfl rfl rfl rfl (x_kk rfl) (x_kk rfl) rfl (c_X9_part (fac_g hIL hNl hl).1 (fac_g hIL hNl hl).2) rfl ?_
  refine f_l2i (M := mX9_factor) 22 dX9_factor_21 rfl ?_
  refine e_ri (M := mX9_factor) dX9_factor_22 rfl (x_kk rfl) (x_kk rfl) ?_
  rfl
theorem sim_factor (T : y_T N I L R) {d : Int32} : y_DI N X mX8_factor [.ref 0, .int d] mX9_factor [.ref 225, .int d] I L R := by
  have T0 := T
  obtain ⟨a, b, kn, ks, bf, bn, ep, ⟨β, δ, γ, ν, hB⟩, hM, hI⟩ := T
  have H : y_CS N I L R β a b := ⟨hM.1, hB.1.2.1, hB.1.2.2.2.2.1, hB.2.2.2.2.2.1, hI.1⟩
  obtain ⟨Ns, Np, Nl, Nm, Z⟩ := Z_of hI.1
  have hR := hM.1
  have ha : I 226 = a := hM.2.1
  have hb : L 229 = b := hM.2.2.1
  subst ha
  subst hb
  obtain ⟨hNs, hn, hNp, hp, hNl, hl, hNm, hmm⟩ := id Z
  exact ⟨_, _, _, ko_factor H Z, mo_factor hR Z (h_IL H), T_fac (T_tw T0)⟩
end
